theorem ylen_rng (y : Int) : 365 ≤ ylen y ∧ ylen y ≤ 366 := by unfold ylen; split <;> omega
theorem ywt_rng {y th v : Int} (hy : -999999999 ≤ y ∧ y ≤ 999999999) (h : (th = 0 → -999999999 ≤ v ∧ v ≤ 999999999) ∧ (th = 1 → 1 ≤ v ∧ v ≤ 999999999) ∧ (¬ th = 0 → ¬ th = 1 → 0 ≤ v ∧ v ≤ 1)) : -1000000001 ≤ ywt y th v ∧ ywt y th v ≤ 1000000001 := by
  unfold ywt ranked side rank
  (repeat' split) <;> omega
def lwR (σ : Nat → Nat → Int) (j : Nat) (w v : Int) : Int := if w = 4 then putLr v else if w = 0 then mlen (leap (σ 0 j)) v else putLr (12 * ywt (σ 0 j) (w - 1) v + σ 1 j - 1)
def lwS (σ : Nat → Nat → Int) (j : Nat) (w v : Int) : Nat → Nat → Int := if w = 4 then putLs σ j v else if w = 0 then sU (sU σ 0 j (σ 0 j)) 1 j v else putLs σ j (12 * ywt (σ 0 j) (w - 1) v + σ 1 j - 1)
def mn2 (a b : Int) : Int := if b < a then b else a
def ofL (σ : Nat → Nat → Int) (j : Nat) (w : Int) : Int := if w = 0 then σ 0 j else if w = 2 then mlen (leap (σ 0 j)) (σ 1 j) else if w = 3 then ylen (σ 0 j) else if w = 4 then bZ (leap (σ 0 j)) else if w = 6 then rank (σ 0 j) else if w = 7 then side (σ 0 j) else σ 1 j
def ofY (σ : Nat → Nat → Int) (j : Nat) (w : Int) : Int := if w = 0 then σ 2 j else if w = 1 then bZ (leap (σ 2 j)) else if w = 2 then ylen (σ 2 j) else if w = 3 then rank (σ 2 j) else side (σ 2 j)
def ofF (σ : Nat → Nat → Int) (j : Nat) (w : Int) : Int := if w = 1 then σ 4 j else if w = 3 then mlen false (σ 3 j) else if w = 4 then mlen true (σ 3 j) else σ 3 j
def ofD (σ : Nat → Nat → Int) (j : Nat) (w : Int) : Int := if w = 0 then σ 5 j else if w = 1 then σ 6 j else if w = 2 then σ 7 j else if w = 3 then ahead (leap (σ 5 j)) (σ 6 j) + σ 7 j else if w = 4 then 1 + (dnum (σ 5 j) (σ 6 j) (σ 7 j) + 3) % 7 else bZ (decide (σ 7 j = mlen (leap (σ 5 j)) (σ 6 j)))
def hsR (σ : Nat → Nat → Int) (w : Int) : Int := if w = 4 then σ 8 0 else bZ (counted σ w 0) + bZ (counted σ w 1) + bZ (counted σ w 2) + bZ (counted σ w 3)
def knw (kd w : Int) : Bool := if kd = 0 then decide ((1 ≤ w ∧ w ≤ 5) ∨ 7 ≤ w) else if kd = 1 then decide ((3 ≤ w ∧ w ≤ 5) ∨ 8 ≤ w) else decide (w ≤ 1)
def setD (σ : Nat → Nat → Int) (j : Nat) (y m d : Int) : Nat → Nat → Int := sU (sU (sU σ 5 j y) 6 j m) 7 j d
theorem kOK_leaf {σ : Nat → Nat → Int} (h : kOK σ) {j : Nat} {y m : Int} (hy : -999999999 ≤ y ∧ y ≤ 999999999) (hm : 1 ≤ m ∧ m ≤ 12) : kOK (sU (sU σ 0 j y) 1 j m) := fun i hi => by
  obtain ⟨h1, h2, h3, h4⟩ := h i hi
  by_cases e : i = j
  · subst e; simp only [sU]; simp; exact ⟨⟨hy.1, hy.2, hm.1, hm.2⟩, h2, h3, h4⟩
  · simp only [sU]; simp [e]; exact ⟨h1, h2, h3, h4⟩
theorem kOK_year {σ : Nat → Nat → Int} (h : kOK σ) {j : Nat} {y : Int} (hy : -999999999 ≤ y ∧ y ≤ 999999999) : kOK (sU σ 2 j y) := fun i hi => by
  obtain ⟨h1, h2, h3, h4⟩ := h i hi
  by_cases e : i = j
  · subst e; simp only [sU]; simp; exact ⟨h1, hy, h3, h4⟩
  · simp only [sU]; simp [e]; exact ⟨h1, h2, h3, h4⟩
theorem kOK_feast {σ : Nat → Nat → Int} (h : kOK σ) {j : Nat} {m d : Int} (hm : 1 ≤ m ∧ m ≤ 12) (hd : 1 ≤ d ∧ d ≤ mlen true m) : kOK (sU (sU σ 3 j m) 4 j d) := fun i hi => by
  obtain ⟨h1, h2, h3, h4⟩ := h i hi
  by_cases e : i = j
  · subst e; simp only [sU]; simp; exact ⟨h1, h2, ⟨hm.1, hm.2, hd.1, hd.2⟩, h4⟩
  · simp only [sU]; simp [e]; exact ⟨h1, h2, h3, h4⟩
theorem kOK_day {σ : Nat → Nat → Int} (h : kOK σ) {j : Nat} {y m d : Int} (hy : -999999999 ≤ y ∧ y ≤ 999999999) (hm : 1 ≤ m ∧ m ≤ 12) (hd : 1 ≤ d ∧ d ≤ mlen (leap y) m) : kOK (sU (sU (sU σ 5 j y) 6 j m) 7 j d) := fun i hi => by
  obtain ⟨h1, h2, h3, h4⟩ := h i hi
  by_cases e : i = j
  · subst e; simp only [sU]; simp; exact ⟨h1, h2, h3, hy.1, hy.2, hm.1, hm.2, hd.1, hd.2⟩
  · simp only [sU]; simp [e]; exact ⟨h1, h2, h3, h4⟩
theorem kOK_knock {σ : Nat → Nat → Int} (h : kOK σ) {v : Int} : kOK (sU σ 8 0 v) := fun i hi => by
  obtain ⟨h1, h2, h3, h4⟩ := h i hi
  simp only [sU]; simp; exact ⟨h1, h2, h3, h4⟩
theorem dayIn_ok {σ : Nat → Nat → Int} (h : kOK σ) {i : Nat} (hi : i < 4) (y : Int) : 1 ≤ dayIn σ i y ∧ dayIn σ i y ≤ mlen (leap y) (σ 3 i) ∧ dayIn σ i y ≤ 31 := by
  obtain ⟨h1, h2, h3, h4⟩ := h i hi
  have h5 := mlen_rng (leap y) (σ 3 i)
  unfold dayIn inYr
  by_cases e : σ 3 i ≠ 2 ∨ σ 4 i ≤ 28
  · rw [decide_eq_true e]
    simp only [Bool.true_or, if_true]
    unfold mlen at *
    (repeat' split at *) <;> simp_all <;> omega
  · rw [decide_eq_false e]
    simp only [Bool.false_or]
    by_cases e2 : leap y = true
    · rw [if_pos e2]
      unfold mlen at *
      (repeat' split at *) <;> simp_all <;> omega
    · rw [if_neg e2]; omega
theorem kmin_row {x y : Int} (h1 : -2147483648 ≤ x ∧ x < 2147483648) (h2 : -2147483648 ≤ y ∧ y < 2147483648) : (if iZ y < iZ x then iZ y else iZ x) = iZ (mn2 x y) := by
  unfold mn2
  by_cases h : y < x
  · rw [if_pos ((iZ_lt h2 h1).mpr h), if_pos h]
  · rw [if_neg (fun z => h ((iZ_lt h2 h1).mp z)), if_neg h]
abbrev ww_X1_leafWith : List Cond := .code yX1_leafWith cX1_leafWith 6 (some .int) :: gT
set_option maxHeartbeats 4000000 in
set_option maxRecDepth 100000 in
theorem c_X1_leafWith (l : Launch) (hst : l.stackTraces = false) (dC : Nat → ClassId) (dI : Nat → Nat → Nat) (dA : Nat → ClassId) (k : Nat → Nat) (q : Nat → Nat) (σ : Nat → Nat → Int) (H0 : Heap) (hG : gX dC dI dA q σ H0) (hOK : kOK σ) (hq : kQI q k) (z1 : Int) (w0 : Int) (v0 : Int) (rz1 : -2147483648 ≤ z1 ∧ z1 < 2147483648) (rw0 : -2147483648 ≤ w0 ∧ w0 < 2147483648) (rv0 : -2147483648 ≤ v0 ∧ v0 < 2147483648) : vx_Met l yX1_leafWith ww_X1_leafWith ({ frames := 11, cells := 3, slots := 18, locals := 363 }) (va_Pc [.ref (q 0), .int (iZ z1), .int (iZ w0), .int (iZ v0)] (fun U => U.heap = H0 ∧ kM dC dI dA k U)) (kQ2x (ex2 (!inb z1 0 3) (!inb w0 0 4 || noThing w0 v0) = 0) (some (.int (iZ (lwR σ (z1.toNat) w0 v0)))) (gX dC dI dA q (lwS σ (z1.toNat) w0 v0)) (kA q H0.size)) (kXC (fun E => (ex2 (!inb z1 0 3) (!inb w0 0 4 || noThing w0 v0) = 1 ∧ E = "java/lang/IndexOutOfBoundsException") ∨ (ex2 (!inb z1 0 3) (!inb w0 0 4 || noThing w0 v0) = 2 ∧ E = "java/lang/IllegalArgumentException"))) 3 18 (kA q H0.size) := by
  refine vx_ofW (cc := cX1_leafWith) (maxL := 6) (ret := (some .int)) (by decide) rfl ?_
  intro p e s m args below meth c s₁ B hml hno hv
  obtain ⟨rfl, hH, hM⟩ := hv
  subst hH
  have hB := hM.2.1
  obtain ⟨tb, tn, tm, htn, hfit, htm, hP⟩ := hG
  have hS : va_S (kA q s.heap.size) s.heap s.heap [] := va_S.rf
  have hx := B.exec
  have hb := B.bytes
  have hr := B.returns
  have hts := atoms_spec (ws := ww_X1_leafWith) B.pre
  have hown : s.vm.findClass RX1 = some m.cls := findClass_of_methodNamed B.named
  have hlocks := B.notSynchronized
  have hl := lv_entry ([.ref (q 0), .int (iZ z1), .int (iZ w0), .int (iZ v0)]) (n := 6) (Nat.le_of_ble_eq_true rfl)
  rw [lg_entry_eq]
  generalize (lg_sl ([.ref (q 0), .int (iZ z1), .int (iZ w0), .int (iZ v0)]) ++ List.replicate (6 - (lg_sl ([.ref (q 0), .int (iZ z1), .int (iZ w0), .int (iZ v0)])).length) Slot.unset).toArray = ls at hl ⊢
  have hl : lv_has ls 6 [(0, .ref (q 0)), (1, .int (iZ z1)), (2, .int (iZ w0)), (3, .int (iZ v0))] := hl
  refine lv_iload_n hx hb dX1_leafWith_0 rfl (lv_at hl 1 rfl) ?_
  refine kcxo (fun _ q => q) (vx_runS (As := [.int (iZ z1)]) (rest := []) ⟨hx, hb, hml, hown, hts⟩ (c_X1_needPlace l hst k _ (z1) (by first | omega | (have e1 := yearOf_cnt (y := σ 0 p1) (m := σ 1 p1) (by omega); have e2 := monOf_cnt (y := σ 0 p1) (m := σ 1 p1) (by omega); omega) | (have e1 := yearOf_cnt (y := σ 0 p1) (m := σ 1 p1) (by omega); have e2 := monOf_cnt (y := σ 0 p1) (m := σ 1 p1) (by omega); have e3 := ywt_rng (y := σ 0 p1) (th := w0 - 1) (v := v0) (by omega) (by omega); rw [e1]; omega))) (va_cwS 1 hts (kg_S mw224 mw225 mw42 rfl mw226) rfl rfl rfl hdS_X1_needPlace ⟨Nat.le_of_ble_eq_true rfl, Nat.le_of_ble_eq_true rfl⟩) ⟨fun a U g mk q => ⟨q.1, q.2.1, kB_call q.2.2⟩, fun U hU hW => ⟨rfl, hU, kB_same hB hU hW⟩⟩ rfl rfl hl.1 rfl (lv_room (Nat.le_of_ble_eq_true rfl)) dX1_leafWith_1 ⟨Nat.le_of_ble_eq_true rfl, Nat.le_of_ble_eq_true rfl⟩) hno hlocks (fun E h => Or.inl ⟨ex2_1 (by have h9 := h.2; (simp only [inb, noThing_iff, noThing_niff, Bool.not_eq_true', Bool.not_eq_false', Bool.or_eq_true, Bool.or_eq_false_iff, decide_eq_true_eq, decide_eq_false_iff_not] <;> omega)), h.1⟩) (Nat.le_of_ble_eq_true rfl) (Nat.le_of_ble_eq_true rfl) (fun g_1 => ?_)
  have g_1 : 0 ≤ (z1) ∧ (z1) ≤ 3 := g_1
  obtain ⟨p1, hp1, rfl⟩ : ∃ p1 : Nat, p1 < 4 ∧ z1 = (p1 : Int) := ⟨z1.toNat, by omega, by omega⟩
  have o_p1 := kOKr hOK hp1
  refine lv_iload_n hx hb dX1_leafWith_4 rfl (lv_at hl 2 rfl) ?_
  refine lv_iconst (v := iZ 0) hx hb dX1_leafWith_5 rfl ?_
  refine lv_iconst (v := iZ 4) hx hb dX1_leafWith_6 rfl ?_
  refine kcxo (fun _ q => q) (vx_runS (As := [.int (iZ w0), .int (iZ 0), .int (iZ 4)]) (rest := []) ⟨hx, hb, hml, hown, hts⟩ (c_X1_needWithin l hst k _ (w0) (0) (4) (by first | omega | (have e1 := yearOf_cnt (y := σ 0 p1) (m := σ 1 p1) (by omega); have e2 := monOf_cnt (y := σ 0 p1) (m := σ 1 p1) (by omega); omega) | (have e1 := yearOf_cnt (y := σ 0 p1) (m := σ 1 p1) (by omega); have e2 := monOf_cnt (y := σ 0 p1) (m := σ 1 p1) (by omega); have e3 := ywt_rng (y := σ 0 p1) (th := w0 - 1) (v := v0) (by omega) (by omega); rw [e1]; omega)) (by first | omega | (have e1 := yearOf_cnt (y := σ 0 p1) (m := σ 1 p1) (by omega); have e2 := monOf_cnt (y := σ 0 p1) (m := σ 1 p1) (by omega); omega) | (have e1 := yearOf_cnt (y := σ 0 p1) (m := σ 1 p1) (by omega); have e2 := monOf_cnt (y := σ 0 p1) (m := σ 1 p1) (by omega); have e3 := ywt_rng (y := σ 0 p1) (th := w0 - 1) (v := v0) (by omega) (by omega); rw [e1]; omega)) (by first | omega | (have e1 := yearOf_cnt (y := σ 0 p1) (m := σ 1 p1) (by omega); have e2 := monOf_cnt (y := σ 0 p1) (m := σ 1 p1) (by omega); omega) | (have e1 := yearOf_cnt (y := σ 0 p1) (m := σ 1 p1) (by omega); have e2 := monOf_cnt (y := σ 0 p1) (m := σ 1 p1) (by omega); have e3 := ywt_rng (y := σ 0 p1) (th := w0 - 1) (v := v0) (by omega) (by omega); rw [e1]; omega))) (va_cwS 3 hts (kg_S mw228 mw229 mw42 rfl mw230) rfl rfl rfl hdS_X1_needWithin ⟨Nat.le_of_ble_eq_true rfl, Nat.le_of_ble_eq_true rfl⟩) ⟨fun a U g mk q => ⟨q.1, q.2.1, kB_call q.2.2⟩, fun U hU hW => ⟨rfl, hU, kB_same hB hU hW⟩⟩ rfl rfl hl.1 rfl (lv_room (Nat.le_of_ble_eq_true rfl)) dX1_leafWith_7 ⟨Nat.le_of_ble_eq_true rfl, Nat.le_of_ble_eq_true rfl⟩) hno hlocks (fun E h => Or.inr ⟨ex2_2 (by (simp only [inb, noThing_iff, noThing_niff, Bool.not_eq_true', Bool.not_eq_false', Bool.or_eq_true, Bool.or_eq_false_iff, decide_eq_true_eq, decide_eq_false_iff_not] <;> omega)) (by have h9 := h.2; (simp only [inb, noThing_iff, noThing_niff, Bool.not_eq_true', Bool.not_eq_false', Bool.or_eq_true, Bool.or_eq_false_iff, decide_eq_true_eq, decide_eq_false_iff_not] <;> omega)), h.1⟩) (Nat.le_of_ble_eq_true rfl) (Nat.le_of_ble_eq_true rfl) (fun g_2 => ?_)
  have g_2 : (0) ≤ (w0) ∧ (w0) ≤ (4) := g_2
  refine lv_iload_n hx hb dX1_leafWith_10 rfl (lv_at hl 2 rfl) ?_
  refine lv_iconst (v := iZ 4) hx hb dX1_leafWith_11 rfl ?_
  refine kz_icmp_ne (tgt := 23) hx hb (by first | omega | (have e1 := yearOf_cnt (y := σ 0 p1) (m := σ 1 p1) (by omega); have e2 := monOf_cnt (y := σ 0 p1) (m := σ 1 p1) (by omega); omega) | (have e1 := yearOf_cnt (y := σ 0 p1) (m := σ 1 p1) (by omega); have e2 := monOf_cnt (y := σ 0 p1) (m := σ 1 p1) (by omega); have e3 := ywt_rng (y := σ 0 p1) (th := w0 - 1) (v := v0) (by omega) (by omega); rw [e1]; omega)) (by first | omega | (have e1 := yearOf_cnt (y := σ 0 p1) (m := σ 1 p1) (by omega); have e2 := monOf_cnt (y := σ 0 p1) (m := σ 1 p1) (by omega); omega) | (have e1 := yearOf_cnt (y := σ 0 p1) (m := σ 1 p1) (by omega); have e2 := monOf_cnt (y := σ 0 p1) (m := σ 1 p1) (by omega); have e3 := ywt_rng (y := σ 0 p1) (th := w0 - 1) (v := v0) (by omega) (by omega); rw [e1]; omega)) dX1_leafWith_12 (by decide) (fun c_3 => ?_) (fun c_3 => ?_)
  · refine lv_aload_n hx hb dX1_leafWith_23 rfl (lv_at hl 0 rfl) ?_
    refine va_get (D := (dC, dI)) (ci := 4) (v := .ref (q 1)) (C := RX1) (T := TX1) (N := 8) hx hb hts (fun w h => List.mem_cons_of_mem _ (gF_0_in h)) hown hM.1 hP 0 rfl rfl 0 (by decide) (hts _ (List.mem_cons_of_mem _ mw97)) (fun _ h9 => h9) rfl dX1_leafWith_24 ?_
    refine lv_iload_n hx hb dX1_leafWith_27 rfl (lv_at hl 1 rfl) ?_
    refine kz_lald (v := cnt (σ 0 p1) (σ 1 p1)) hx hb hM.1 hP 1 1 rfl rfl (by omega) (by decide) rfl dX1_leafWith_28 ?_
    refine kc0 (fun _ q => q) (va_runS (As := [.long (lZ (cnt (σ 0 p1) (σ 1 p1)))]) (rest := []) ⟨hx, hb, hml, hown, hts⟩ (c_X0_yearOfCount l _ ((cnt (σ 0 p1) (σ 1 p1))) (by first | omega | (have e1 := yearOf_cnt (y := σ 0 p1) (m := σ 1 p1) (by omega); have e2 := monOf_cnt (y := σ 0 p1) (m := σ 1 p1) (by omega); omega) | (have e1 := yearOf_cnt (y := σ 0 p1) (m := σ 1 p1) (by omega); have e2 := monOf_cnt (y := σ 0 p1) (m := σ 1 p1) (by omega); have e3 := ywt_rng (y := σ 0 p1) (th := w0 - 1) (v := v0) (by omega) (by omega); rw [e1]; omega))) (va_cwS 1 hts (kg_S mw152 mw143 mw51 rfl mw144) rfl rfl rfl hdS_X0_yearOfCount ⟨Nat.le_of_ble_eq_true rfl, Nat.le_of_ble_eq_true rfl⟩) ⟨fun a U g mk q => q, fun U hU hW => ⟨rfl, hU⟩⟩ rfl rfl hl.1 rfl (lv_room (Nat.le_of_ble_eq_true rfl)) dX1_leafWith_29 ⟨Nat.le_of_ble_eq_true rfl, Nat.le_of_ble_eq_true rfl⟩) ?_
    refine lv_istore (lv' := [(4, .int (iZ (yearOf (((cnt (σ 0 p1) (σ 1 p1))))))), (0, .ref (q 0)), (1, .int (iZ ((p1 : Nat) : Int))), (2, .int (iZ w0)), (3, .int (iZ v0))]) hx hb dX1_leafWith_32 hl (by decide) rfl (fun ls hl => ?_)
    refine lv_iload_n hx hb dX1_leafWith_34 rfl (lv_at hl 3 rfl) ?_
    refine kz_if_ne (tgt := 54) hx hb (by first | omega | (have e1 := yearOf_cnt (y := σ 0 p1) (m := σ 1 p1) (by omega); have e2 := monOf_cnt (y := σ 0 p1) (m := σ 1 p1) (by omega); omega) | (have e1 := yearOf_cnt (y := σ 0 p1) (m := σ 1 p1) (by omega); have e2 := monOf_cnt (y := σ 0 p1) (m := σ 1 p1) (by omega); have e3 := ywt_rng (y := σ 0 p1) (th := w0 - 1) (v := v0) (by omega) (by omega); rw [e1]; omega)) dX1_leafWith_35 (by decide) (fun c_4 => ?_) (fun c_4 => ?_)
    · refine lv_iload_n hx hb dX1_leafWith_54 rfl (lv_at hl 3 rfl) ?_
      refine lv_iconst (v := iZ 1) hx hb dX1_leafWith_55 rfl ?_
      refine kz_isub hx hb dX1_leafWith_56 ?_
      refine lv_iload_n hx hb dX1_leafWith_57 rfl (lv_at hl 4 rfl) ?_
      refine kcxo (fun _ q => q) (vx_runS (As := [.int (iZ (w0 - 1)), .int (iZ v0)]) (rest := []) ⟨hx, hb, hml, hown, hts⟩ (c_X1_needYearThing l hst k _ ((w0 - 1)) (v0) (by first | omega | (have e1 := yearOf_cnt (y := σ 0 p1) (m := σ 1 p1) (by omega); have e2 := monOf_cnt (y := σ 0 p1) (m := σ 1 p1) (by omega); omega) | (have e1 := yearOf_cnt (y := σ 0 p1) (m := σ 1 p1) (by omega); have e2 := monOf_cnt (y := σ 0 p1) (m := σ 1 p1) (by omega); have e3 := ywt_rng (y := σ 0 p1) (th := w0 - 1) (v := v0) (by omega) (by omega); rw [e1]; omega)) (by first | omega | (have e1 := yearOf_cnt (y := σ 0 p1) (m := σ 1 p1) (by omega); have e2 := monOf_cnt (y := σ 0 p1) (m := σ 1 p1) (by omega); omega) | (have e1 := yearOf_cnt (y := σ 0 p1) (m := σ 1 p1) (by omega); have e2 := monOf_cnt (y := σ 0 p1) (m := σ 1 p1) (by omega); have e3 := ywt_rng (y := σ 0 p1) (th := w0 - 1) (v := v0) (by omega) (by omega); rw [e1]; omega))) (va_cwS 2 hts (kg_S mw690 mw691 mw42 rfl mw692) rfl rfl rfl hdS_X1_needYearThing ⟨Nat.le_of_ble_eq_true rfl, Nat.le_of_ble_eq_true rfl⟩) ⟨fun a U g mk q => ⟨q.1, q.2.1, kB_call q.2.2⟩, fun U hU hW => ⟨rfl, hU, kB_same hB hU hW⟩⟩ rfl rfl hl.1 rfl (lv_room (Nat.le_of_ble_eq_true rfl)) dX1_leafWith_58 ⟨Nat.le_of_ble_eq_true rfl, Nat.le_of_ble_eq_true rfl⟩) hno hlocks (fun E h => Or.inr ⟨ex2_2 (by (simp only [inb, noThing_iff, noThing_niff, Bool.not_eq_true', Bool.not_eq_false', Bool.or_eq_true, Bool.or_eq_false_iff, decide_eq_true_eq, decide_eq_false_iff_not] <;> omega)) (by have h9 := h.2; (simp only [inb, noThing_iff, noThing_niff, Bool.not_eq_true', Bool.not_eq_false', Bool.or_eq_true, Bool.or_eq_false_iff, decide_eq_true_eq, decide_eq_false_iff_not] <;> omega)), h.1⟩) (Nat.le_of_ble_eq_true rfl) (Nat.le_of_ble_eq_true rfl) (fun g_5 => ?_)
      have g_5 : (((w0 - 1)) = 0 → -999999999 ≤ (v0) ∧ (v0) ≤ 999999999) ∧ (((w0 - 1)) = 1 → 1 ≤ (v0) ∧ (v0) ≤ 999999999) ∧ (¬ ((w0 - 1)) = 0 → ¬ ((w0 - 1)) = 1 → 0 ≤ (v0) ∧ (v0) ≤ 1) := g_5
      refine lv_iload hx hb dX1_leafWith_61 (lv_at hl 0 rfl) ?_
      refine lv_iload_n hx hb dX1_leafWith_63 rfl (lv_at hl 3 rfl) ?_
      refine lv_iconst (v := iZ 1) hx hb dX1_leafWith_64 rfl ?_
      refine kz_isub hx hb dX1_leafWith_65 ?_
      refine lv_iload_n hx hb dX1_leafWith_66 rfl (lv_at hl 4 rfl) ?_
      refine kc0 (fun _ q => q) (va_runS (As := [.int (iZ (yearOf (((cnt (σ 0 p1) (σ 1 p1)))))), .int (iZ (w0 - 1)), .int (iZ v0)]) (rest := []) ⟨hx, hb, hml, hown, hts⟩ (c_X0_yearWithThing l _ ((yearOf (((cnt (σ 0 p1) (σ 1 p1)))))) ((w0 - 1)) (v0) (by first | omega | (have e1 := yearOf_cnt (y := σ 0 p1) (m := σ 1 p1) (by omega); have e2 := monOf_cnt (y := σ 0 p1) (m := σ 1 p1) (by omega); omega) | (have e1 := yearOf_cnt (y := σ 0 p1) (m := σ 1 p1) (by omega); have e2 := monOf_cnt (y := σ 0 p1) (m := σ 1 p1) (by omega); have e3 := ywt_rng (y := σ 0 p1) (th := w0 - 1) (v := v0) (by omega) (by omega); rw [e1]; omega)) (by first | omega | (have e1 := yearOf_cnt (y := σ 0 p1) (m := σ 1 p1) (by omega); have e2 := monOf_cnt (y := σ 0 p1) (m := σ 1 p1) (by omega); omega) | (have e1 := yearOf_cnt (y := σ 0 p1) (m := σ 1 p1) (by omega); have e2 := monOf_cnt (y := σ 0 p1) (m := σ 1 p1) (by omega); have e3 := ywt_rng (y := σ 0 p1) (th := w0 - 1) (v := v0) (by omega) (by omega); rw [e1]; omega)) (by first | omega | (have e1 := yearOf_cnt (y := σ 0 p1) (m := σ 1 p1) (by omega); have e2 := monOf_cnt (y := σ 0 p1) (m := σ 1 p1) (by omega); omega) | (have e1 := yearOf_cnt (y := σ 0 p1) (m := σ 1 p1) (by omega); have e2 := monOf_cnt (y := σ 0 p1) (m := σ 1 p1) (by omega); have e3 := ywt_rng (y := σ 0 p1) (th := w0 - 1) (v := v0) (by omega) (by omega); rw [e1]; omega))) (va_cwS 3 hts (kg_S mw693 mw694 mw51 rfl mw695) rfl rfl rfl hdS_X0_yearWithThing ⟨Nat.le_of_ble_eq_true rfl, Nat.le_of_ble_eq_true rfl⟩) ⟨fun a U g mk q => q, fun U hU hW => ⟨rfl, hU⟩⟩ rfl rfl hl.1 rfl (lv_room (Nat.le_of_ble_eq_true rfl)) dX1_leafWith_67 ⟨Nat.le_of_ble_eq_true rfl, Nat.le_of_ble_eq_true rfl⟩) ?_
      refine lv_istore (lv' := [(5, .int (iZ (ywt (((yearOf (((cnt (σ 0 p1) (σ 1 p1))))))) (((w0 - 1))) ((v0))))), (4, .int (iZ (yearOf (((cnt (σ 0 p1) (σ 1 p1))))))), (0, .ref (q 0)), (1, .int (iZ ((p1 : Nat) : Int))), (2, .int (iZ w0)), (3, .int (iZ v0))]) hx hb dX1_leafWith_70 hl (by decide) rfl (fun ls hl => ?_)
      refine lv_aload_n hx hb dX1_leafWith_72 rfl (lv_at hl 2 rfl) ?_
      refine lv_iload_n hx hb dX1_leafWith_73 rfl (lv_at hl 3 rfl) ?_
      refine lv_iload hx hb dX1_leafWith_74 (lv_at hl 0 rfl) ?_
      refine lv_aload_n hx hb dX1_leafWith_76 rfl (lv_at hl 2 rfl) ?_
      refine va_get (D := (dC, dI)) (ci := 4) (v := .ref (q 1)) (C := RX1) (T := TX1) (N := 8) hx hb hts (fun w h => List.mem_cons_of_mem _ (gF_0_in h)) hown hM.1 hP 0 rfl rfl 0 (by decide) (hts _ (List.mem_cons_of_mem _ mw97)) (fun _ h9 => h9) rfl dX1_leafWith_77 ?_
      refine lv_iload_n hx hb dX1_leafWith_80 rfl (lv_at hl 3 rfl) ?_
      refine kz_lald (v := cnt (σ 0 p1) (σ 1 p1)) hx hb hM.1 hP 1 1 rfl rfl (by omega) (by decide) rfl dX1_leafWith_81 ?_
      refine kc0 (fun _ q => q) (va_runS (As := [.long (lZ (cnt (σ 0 p1) (σ 1 p1)))]) (rest := [.int (iZ (ywt (((yearOf (((cnt (σ 0 p1) (σ 1 p1))))))) (((w0 - 1))) ((v0)))), .int (iZ ((p1 : Nat) : Int)), .ref (q 0)]) ⟨hx, hb, hml, hown, hts⟩ (c_X0_monthOf l _ ((cnt (σ 0 p1) (σ 1 p1))) (by first | omega | (have e1 := yearOf_cnt (y := σ 0 p1) (m := σ 1 p1) (by omega); have e2 := monOf_cnt (y := σ 0 p1) (m := σ 1 p1) (by omega); omega) | (have e1 := yearOf_cnt (y := σ 0 p1) (m := σ 1 p1) (by omega); have e2 := monOf_cnt (y := σ 0 p1) (m := σ 1 p1) (by omega); have e3 := ywt_rng (y := σ 0 p1) (th := w0 - 1) (v := v0) (by omega) (by omega); rw [e1]; omega))) (va_cwS 1 hts (kg_S mw153 mw136 mw51 rfl mw137) rfl rfl rfl hdS_X0_monthOf ⟨Nat.le_of_ble_eq_true rfl, Nat.le_of_ble_eq_true rfl⟩) ⟨fun a U g mk q => q, fun U hU hW => ⟨rfl, hU⟩⟩ rfl rfl hl.1 rfl (lv_room (Nat.le_of_ble_eq_true rfl)) dX1_leafWith_82 ⟨Nat.le_of_ble_eq_true rfl, Nat.le_of_ble_eq_true rfl⟩) ?_
      refine kc0 (fun _ q => q) (va_runS (As := [.int (iZ (ywt (((yearOf (((cnt (σ 0 p1) (σ 1 p1))))))) (((w0 - 1))) ((v0)))), .int (iZ (monOf (((cnt (σ 0 p1) (σ 1 p1))))))]) (rest := [.int (iZ ((p1 : Nat) : Int)), .ref (q 0)]) ⟨hx, hb, hml, hown, hts⟩ (c_X0_countOf l _ ((ywt (((yearOf (((cnt (σ 0 p1) (σ 1 p1))))))) (((w0 - 1))) ((v0)))) ((monOf (((cnt (σ 0 p1) (σ 1 p1)))))) (by first | omega | (have e1 := yearOf_cnt (y := σ 0 p1) (m := σ 1 p1) (by omega); have e2 := monOf_cnt (y := σ 0 p1) (m := σ 1 p1) (by omega); omega) | (have e1 := yearOf_cnt (y := σ 0 p1) (m := σ 1 p1) (by omega); have e2 := monOf_cnt (y := σ 0 p1) (m := σ 1 p1) (by omega); have e3 := ywt_rng (y := σ 0 p1) (th := w0 - 1) (v := v0) (by omega) (by omega); rw [e1]; omega)) (by first | omega | (have e1 := yearOf_cnt (y := σ 0 p1) (m := σ 1 p1) (by omega); have e2 := monOf_cnt (y := σ 0 p1) (m := σ 1 p1) (by omega); omega) | (have e1 := yearOf_cnt (y := σ 0 p1) (m := σ 1 p1) (by omega); have e2 := monOf_cnt (y := σ 0 p1) (m := σ 1 p1) (by omega); have e3 := ywt_rng (y := σ 0 p1) (th := w0 - 1) (v := v0) (by omega) (by omega); rw [e1]; omega))) (va_cwS 2 hts (kg_S mw154 mw155 mw51 rfl mw156) rfl rfl rfl hdS_X0_countOf ⟨Nat.le_of_ble_eq_true rfl, Nat.le_of_ble_eq_true rfl⟩) ⟨fun a U g mk q => q, fun U hU hW => ⟨rfl, hU⟩⟩ rfl rfl hl.1 rfl (lv_room (Nat.le_of_ble_eq_true rfl)) dX1_leafWith_85 ⟨Nat.le_of_ble_eq_true rfl, Nat.le_of_ble_eq_true rfl⟩) ?_
      refine kc2 (va_runV (As := [.int (iZ ((p1 : Nat) : Int)), .long (lZ (12 * (((ywt (((yearOf (((cnt (σ 0 p1) (σ 1 p1))))))) (((w0 - 1))) ((v0))))) + (((monOf (((cnt (σ 0 p1) (σ 1 p1))))))) - 1))]) (rest := []) ⟨hx, hb, hml, hown, hts⟩ (c_X1_putLeaf l dC dI dA k q (σ) _ ⟨tb, tn, tm, htn, hfit, htm, hP⟩ (hOK) hq p1 ((12 * (((ywt (((yearOf (((cnt (σ 0 p1) (σ 1 p1))))))) (((w0 - 1))) ((v0))))) + (((monOf (((cnt (σ 0 p1) (σ 1 p1))))))) - 1)) hp1 (by first | omega | (have e1 := yearOf_cnt (y := σ 0 p1) (m := σ 1 p1) (by omega); have e2 := monOf_cnt (y := σ 0 p1) (m := σ 1 p1) (by omega); omega) | (have e1 := yearOf_cnt (y := σ 0 p1) (m := σ 1 p1) (by omega); have e2 := monOf_cnt (y := σ 0 p1) (m := σ 1 p1) (by omega); have e3 := ywt_rng (y := σ 0 p1) (th := w0 - 1) (v := v0) (by omega) (by omega); rw [e1]; omega))) (cwV 2 hts (kg_V mw616 mw617 mw19 mw42 rfl mw618) rfl rfl rfl hdV_X1_putLeaf ⟨Nat.le_of_ble_eq_true rfl, Nat.le_of_ble_eq_true rfl⟩) ⟨fun a U g mk q => ⟨q.1, q.2.1, kM_call q.2.2⟩, va_recv hM.1 hP (ci := 4) (q0 := 0) rfl rfl, fun U hU hW => ⟨rfl, hU, kM_kept hM hS (kA_N hq hM.2.1.1) hU hW⟩⟩ rfl rfl hl.1 rfl (lv_room (Nat.le_of_ble_eq_true rfl)) dX1_leafWith_88 ⟨Nat.le_of_ble_eq_true rfl, Nat.le_of_ble_eq_true rfl⟩) hS (fun a _ h => kA_up hS.1 a h) (fun a h => kA_up hS.1 a h) (fun H locs hG hz9 hk9 hS => ?_)
      obtain ⟨tb, tn, tm, htn, hfit, htm, hP⟩ := hG
      refine W.widen (k := 3) (n := 18) (Nat.le_of_ble_eq_true rfl) (Nat.le_of_ble_eq_true rfl) ?_
      refine vx_ret ?_
      exact W.iret (v := iZ (putLr (((12 * (((ywt (((yearOf (((cnt (σ 0 p1) (σ 1 p1))))))) (((w0 - 1))) ((v0))))) + (((monOf (((cnt (σ 0 p1) (σ 1 p1))))))) - 1))))) hx hb hr (fun t ht hW => ⟨⟨⟨congrArg (fun z : Int => Outcome.returned (some (Value.int (iZ z)))) (show (putLr (((12 * (((ywt (((yearOf (((cnt (σ 0 p1) (σ 1 p1))))))) (((w0 - 1))) ((v0))))) + (((monOf (((cnt (σ 0 p1) (σ 1 p1))))))) - 1)))) = (lwR σ p1 w0 v0) from by unfold lwR; have e1 := yearOf_cnt (y := σ 0 p1) (m := σ 1 p1) (by omega); have e2 := monOf_cnt (y := σ 0 p1) (m := σ 1 p1) (by omega); first | (rw [if_pos (by omega)]; done) | (rw [if_neg (by omega), if_pos (by omega), e1]; exact putLr_cnt (by omega) (by omega)) | (rw [if_neg (by omega), if_neg (by omega), e1, e2])), gX_cast ⟨tb, tn, tm, htn, hfit, htm, by rw [ht]; exact hP⟩ (show (putLs σ p1 (((12 * (((ywt (((yearOf (((cnt (σ 0 p1) (σ 1 p1))))))) (((w0 - 1))) ((v0))))) + (((monOf (((cnt (σ 0 p1) (σ 1 p1))))))) - 1)))) = (lwS σ p1 w0 v0) from by unfold lwS; have e1 := yearOf_cnt (y := σ 0 p1) (m := σ 1 p1) (by omega); have e2 := monOf_cnt (y := σ 0 p1) (m := σ 1 p1) (by omega); first | (rw [if_pos (by omega)]; done) | (rw [if_neg (by omega), if_pos (by omega), e1]; exact putLs_cnt (by omega) (by omega)) | (rw [if_neg (by omega), if_neg (by omega), e1, e2]))⟩, hS.F ht⟩, ex2_0 (by (simp only [inb, noThing_iff, noThing_niff, Bool.not_eq_true', Bool.not_eq_false', Bool.or_eq_true, Bool.or_eq_false_iff, decide_eq_true_eq, decide_eq_false_iff_not] <;> omega)) (by (simp only [inb, noThing_iff, noThing_niff, Bool.not_eq_true', Bool.not_eq_false', Bool.or_eq_true, Bool.or_eq_false_iff, decide_eq_true_eq, decide_eq_false_iff_not] <;> omega))⟩) hS.2.2 dX1_leafWith_91
    · refine lv_iload_n hx hb dX1_leafWith_38 rfl (lv_at hl 4 rfl) ?_
      refine kcxo (fun _ q => q) (vx_runS (As := [.int (iZ v0)]) (rest := []) ⟨hx, hb, hml, hown, hts⟩ (c_X1_needMonth l hst k _ (v0) (by first | omega | (have e1 := yearOf_cnt (y := σ 0 p1) (m := σ 1 p1) (by omega); have e2 := monOf_cnt (y := σ 0 p1) (m := σ 1 p1) (by omega); omega) | (have e1 := yearOf_cnt (y := σ 0 p1) (m := σ 1 p1) (by omega); have e2 := monOf_cnt (y := σ 0 p1) (m := σ 1 p1) (by omega); have e3 := ywt_rng (y := σ 0 p1) (th := w0 - 1) (v := v0) (by omega) (by omega); rw [e1]; omega))) (va_cwS 1 hts (kg_S mw613 mw614 mw42 rfl mw615) rfl rfl rfl hdS_X1_needMonth ⟨Nat.le_of_ble_eq_true rfl, Nat.le_of_ble_eq_true rfl⟩) ⟨fun a U g mk q => ⟨q.1, q.2.1, kB_call q.2.2⟩, fun U hU hW => ⟨rfl, hU, kB_same hB hU hW⟩⟩ rfl rfl hl.1 rfl (lv_room (Nat.le_of_ble_eq_true rfl)) dX1_leafWith_39 ⟨Nat.le_of_ble_eq_true rfl, Nat.le_of_ble_eq_true rfl⟩) hno hlocks (fun E h => Or.inr ⟨ex2_2 (by (simp only [inb, noThing_iff, noThing_niff, Bool.not_eq_true', Bool.not_eq_false', Bool.or_eq_true, Bool.or_eq_false_iff, decide_eq_true_eq, decide_eq_false_iff_not] <;> omega)) (by have h9 := h.2; (simp only [inb, noThing_iff, noThing_niff, Bool.not_eq_true', Bool.not_eq_false', Bool.or_eq_true, Bool.or_eq_false_iff, decide_eq_true_eq, decide_eq_false_iff_not] <;> omega)), h.1⟩) (Nat.le_of_ble_eq_true rfl) (Nat.le_of_ble_eq_true rfl) (fun g_6 => ?_)
      have g_6 : 1 ≤ (v0) ∧ (v0) ≤ 12 := g_6
      refine lv_aload_n hx hb dX1_leafWith_42 rfl (lv_at hl 1 rfl) ?_
      refine lv_iload_n hx hb dX1_leafWith_43 rfl (lv_at hl 2 rfl) ?_
      refine lv_iload hx hb dX1_leafWith_44 (lv_at hl 0 rfl) ?_
      refine lv_iload_n hx hb dX1_leafWith_46 rfl (lv_at hl 4 rfl) ?_
      refine kc0 (fun _ q => q) (va_runS (As := [.int (iZ (yearOf (((cnt (σ 0 p1) (σ 1 p1)))))), .int (iZ v0)]) (rest := [.int (iZ ((p1 : Nat) : Int)), .ref (q 0)]) ⟨hx, hb, hml, hown, hts⟩ (c_X0_countOf l _ ((yearOf (((cnt (σ 0 p1) (σ 1 p1)))))) (v0) (by first | omega | (have e1 := yearOf_cnt (y := σ 0 p1) (m := σ 1 p1) (by omega); have e2 := monOf_cnt (y := σ 0 p1) (m := σ 1 p1) (by omega); omega) | (have e1 := yearOf_cnt (y := σ 0 p1) (m := σ 1 p1) (by omega); have e2 := monOf_cnt (y := σ 0 p1) (m := σ 1 p1) (by omega); have e3 := ywt_rng (y := σ 0 p1) (th := w0 - 1) (v := v0) (by omega) (by omega); rw [e1]; omega)) (by first | omega | (have e1 := yearOf_cnt (y := σ 0 p1) (m := σ 1 p1) (by omega); have e2 := monOf_cnt (y := σ 0 p1) (m := σ 1 p1) (by omega); omega) | (have e1 := yearOf_cnt (y := σ 0 p1) (m := σ 1 p1) (by omega); have e2 := monOf_cnt (y := σ 0 p1) (m := σ 1 p1) (by omega); have e3 := ywt_rng (y := σ 0 p1) (th := w0 - 1) (v := v0) (by omega) (by omega); rw [e1]; omega))) (va_cwS 2 hts (kg_S mw154 mw155 mw51 rfl mw156) rfl rfl rfl hdS_X0_countOf ⟨Nat.le_of_ble_eq_true rfl, Nat.le_of_ble_eq_true rfl⟩) ⟨fun a U g mk q => q, fun U hU hW => ⟨rfl, hU⟩⟩ rfl rfl hl.1 rfl (lv_room (Nat.le_of_ble_eq_true rfl)) dX1_leafWith_47 ⟨Nat.le_of_ble_eq_true rfl, Nat.le_of_ble_eq_true rfl⟩) ?_
      refine kc2 (va_runV (As := [.int (iZ ((p1 : Nat) : Int)), .long (lZ (12 * (((yearOf (((cnt (σ 0 p1) (σ 1 p1))))))) + ((v0)) - 1))]) (rest := []) ⟨hx, hb, hml, hown, hts⟩ (c_X1_putLeaf l dC dI dA k q (σ) _ ⟨tb, tn, tm, htn, hfit, htm, hP⟩ (hOK) hq p1 ((12 * (((yearOf (((cnt (σ 0 p1) (σ 1 p1))))))) + ((v0)) - 1)) hp1 (by first | omega | (have e1 := yearOf_cnt (y := σ 0 p1) (m := σ 1 p1) (by omega); have e2 := monOf_cnt (y := σ 0 p1) (m := σ 1 p1) (by omega); omega) | (have e1 := yearOf_cnt (y := σ 0 p1) (m := σ 1 p1) (by omega); have e2 := monOf_cnt (y := σ 0 p1) (m := σ 1 p1) (by omega); have e3 := ywt_rng (y := σ 0 p1) (th := w0 - 1) (v := v0) (by omega) (by omega); rw [e1]; omega))) (cwV 2 hts (kg_V mw616 mw617 mw19 mw42 rfl mw618) rfl rfl rfl hdV_X1_putLeaf ⟨Nat.le_of_ble_eq_true rfl, Nat.le_of_ble_eq_true rfl⟩) ⟨fun a U g mk q => ⟨q.1, q.2.1, kM_call q.2.2⟩, va_recv hM.1 hP (ci := 4) (q0 := 0) rfl rfl, fun U hU hW => ⟨rfl, hU, kM_kept hM hS (kA_N hq hM.2.1.1) hU hW⟩⟩ rfl rfl hl.1 rfl (lv_room (Nat.le_of_ble_eq_true rfl)) dX1_leafWith_50 ⟨Nat.le_of_ble_eq_true rfl, Nat.le_of_ble_eq_true rfl⟩) hS (fun a _ h => kA_up hS.1 a h) (fun a h => kA_up hS.1 a h) (fun H locs hG hz9 hk9 hS => ?_)
      obtain ⟨tb, tn, tm, htn, hfit, htm, hP⟩ := hG
      refine W.widen (k := 3) (n := 18) (Nat.le_of_ble_eq_true rfl) (Nat.le_of_ble_eq_true rfl) ?_
      refine vx_ret ?_
      exact W.iret (v := iZ (putLr (((12 * (((yearOf (((cnt (σ 0 p1) (σ 1 p1))))))) + ((v0)) - 1))))) hx hb hr (fun t ht hW => ⟨⟨⟨congrArg (fun z : Int => Outcome.returned (some (Value.int (iZ z)))) (show (putLr (((12 * (((yearOf (((cnt (σ 0 p1) (σ 1 p1))))))) + ((v0)) - 1)))) = (lwR σ p1 w0 v0) from by unfold lwR; have e1 := yearOf_cnt (y := σ 0 p1) (m := σ 1 p1) (by omega); have e2 := monOf_cnt (y := σ 0 p1) (m := σ 1 p1) (by omega); first | (rw [if_pos (by omega)]; done) | (rw [if_neg (by omega), if_pos (by omega), e1]; exact putLr_cnt (by omega) (by omega)) | (rw [if_neg (by omega), if_neg (by omega), e1, e2])), gX_cast ⟨tb, tn, tm, htn, hfit, htm, by rw [ht]; exact hP⟩ (show (putLs σ p1 (((12 * (((yearOf (((cnt (σ 0 p1) (σ 1 p1))))))) + ((v0)) - 1)))) = (lwS σ p1 w0 v0) from by unfold lwS; have e1 := yearOf_cnt (y := σ 0 p1) (m := σ 1 p1) (by omega); have e2 := monOf_cnt (y := σ 0 p1) (m := σ 1 p1) (by omega); first | (rw [if_pos (by omega)]; done) | (rw [if_neg (by omega), if_pos (by omega), e1]; exact putLs_cnt (by omega) (by omega)) | (rw [if_neg (by omega), if_neg (by omega), e1, e2]))⟩, hS.F ht⟩, ex2_0 (by (simp only [inb, noThing_iff, noThing_niff, Bool.not_eq_true', Bool.not_eq_false', Bool.or_eq_true, Bool.or_eq_false_iff, decide_eq_true_eq, decide_eq_false_iff_not] <;> omega)) (by (simp only [inb, noThing_iff, noThing_niff, Bool.not_eq_true', Bool.not_eq_false', Bool.or_eq_true, Bool.or_eq_false_iff, decide_eq_true_eq, decide_eq_false_iff_not] <;> omega))⟩) hS.2.2 dX1_leafWith_53
  · refine lv_aload_n hx hb dX1_leafWith_15 rfl (lv_at hl 0 rfl) ?_
    refine lv_iload_n hx hb dX1_leafWith_16 rfl (lv_at hl 1 rfl) ?_
    refine lv_iload_n hx hb dX1_leafWith_17 rfl (lv_at hl 3 rfl) ?_
    refine kz_i2l hx hb (by first | omega | (have e1 := yearOf_cnt (y := σ 0 p1) (m := σ 1 p1) (by omega); have e2 := monOf_cnt (y := σ 0 p1) (m := σ 1 p1) (by omega); omega) | (have e1 := yearOf_cnt (y := σ 0 p1) (m := σ 1 p1) (by omega); have e2 := monOf_cnt (y := σ 0 p1) (m := σ 1 p1) (by omega); have e3 := ywt_rng (y := σ 0 p1) (th := w0 - 1) (v := v0) (by omega) (by omega); rw [e1]; omega)) dX1_leafWith_18 ?_
    refine kc2 (va_runV (As := [.int (iZ ((p1 : Nat) : Int)), .long (lZ (v0))]) (rest := []) ⟨hx, hb, hml, hown, hts⟩ (c_X1_putLeaf l dC dI dA k q (σ) _ ⟨tb, tn, tm, htn, hfit, htm, hP⟩ (hOK) hq p1 (v0) hp1 (by first | omega | (have e1 := yearOf_cnt (y := σ 0 p1) (m := σ 1 p1) (by omega); have e2 := monOf_cnt (y := σ 0 p1) (m := σ 1 p1) (by omega); omega) | (have e1 := yearOf_cnt (y := σ 0 p1) (m := σ 1 p1) (by omega); have e2 := monOf_cnt (y := σ 0 p1) (m := σ 1 p1) (by omega); have e3 := ywt_rng (y := σ 0 p1) (th := w0 - 1) (v := v0) (by omega) (by omega); rw [e1]; omega))) (cwV 2 hts (kg_V mw616 mw617 mw19 mw42 rfl mw618) rfl rfl rfl hdV_X1_putLeaf ⟨Nat.le_of_ble_eq_true rfl, Nat.le_of_ble_eq_true rfl⟩) ⟨fun a U g mk q => ⟨q.1, q.2.1, kM_call q.2.2⟩, va_recv hM.1 hP (ci := 4) (q0 := 0) rfl rfl, fun U hU hW => ⟨rfl, hU, kM_kept hM hS (kA_N hq hM.2.1.1) hU hW⟩⟩ rfl rfl hl.1 rfl (lv_room (Nat.le_of_ble_eq_true rfl)) dX1_leafWith_19 ⟨Nat.le_of_ble_eq_true rfl, Nat.le_of_ble_eq_true rfl⟩) hS (fun a _ h => kA_up hS.1 a h) (fun a h => kA_up hS.1 a h) (fun H locs hG hz9 hk9 hS => ?_)
    obtain ⟨tb, tn, tm, htn, hfit, htm, hP⟩ := hG
    refine W.widen (k := 3) (n := 18) (Nat.le_of_ble_eq_true rfl) (Nat.le_of_ble_eq_true rfl) ?_
    refine vx_ret ?_
    exact W.iret (v := iZ (putLr ((v0)))) hx hb hr (fun t ht hW => ⟨⟨⟨congrArg (fun z : Int => Outcome.returned (some (Value.int (iZ z)))) (show (putLr ((v0))) = (lwR σ p1 w0 v0) from by unfold lwR; have e1 := yearOf_cnt (y := σ 0 p1) (m := σ 1 p1) (by omega); have e2 := monOf_cnt (y := σ 0 p1) (m := σ 1 p1) (by omega); first | (rw [if_pos (by omega)]; done) | (rw [if_neg (by omega), if_pos (by omega), e1]; exact putLr_cnt (by omega) (by omega)) | (rw [if_neg (by omega), if_neg (by omega), e1, e2])), gX_cast ⟨tb, tn, tm, htn, hfit, htm, by rw [ht]; exact hP⟩ (show (putLs σ p1 ((v0))) = (lwS σ p1 w0 v0) from by unfold lwS; have e1 := yearOf_cnt (y := σ 0 p1) (m := σ 1 p1) (by omega); have e2 := monOf_cnt (y := σ 0 p1) (m := σ 1 p1) (by omega); first | (rw [if_pos (by omega)]; done) | (rw [if_neg (by omega), if_pos (by omega), e1]; exact putLs_cnt (by omega) (by omega)) | (rw [if_neg (by omega), if_neg (by omega), e1, e2]))⟩, hS.F ht⟩, ex2_0 (by (simp only [inb, noThing_iff, noThing_niff, Bool.not_eq_true', Bool.not_eq_false', Bool.or_eq_true, Bool.or_eq_false_iff, decide_eq_true_eq, decide_eq_false_iff_not] <;> omega)) (by (simp only [inb, noThing_iff, noThing_niff, Bool.not_eq_true', Bool.not_eq_false', Bool.or_eq_true, Bool.or_eq_false_iff, decide_eq_true_eq, decide_eq_false_iff_not] <;> omega))⟩) hS.2.2 dX1_leafWith_22

abbrev ww_X1_yearWith : List Cond := .code yX1_yearWith cX1_yearWith 4 (some .int) :: gT
set_option maxHeartbeats 4000000 in
set_option maxRecDepth 100000 in
theorem c_X1_yearWith (l : Launch) (hst : l.stackTraces = false) (dC : Nat → ClassId) (dI : Nat → Nat → Nat) (dA : Nat → ClassId) (k : Nat → Nat) (q : Nat → Nat) (σ : Nat → Nat → Int) (H0 : Heap) (hG : gX dC dI dA q σ H0) (hOK : kOK σ) (hq : kQI q k) (z1 : Int) (w0 : Int) (v0 : Int) (rz1 : -2147483648 ≤ z1 ∧ z1 < 2147483648) (rw0 : -2147483648 ≤ w0 ∧ w0 < 2147483648) (rv0 : -2147483648 ≤ v0 ∧ v0 < 2147483648) : vx_Met l yX1_yearWith ww_X1_yearWith ({ frames := 11, cells := 3, slots := 18, locals := 363 }) (va_Pc [.ref (q 0), .int (iZ z1), .int (iZ w0), .int (iZ v0)] (fun U => U.heap = H0 ∧ kM dC dI dA k U)) (kQ2x (ex2 (!inb z1 0 3) (!inb w0 0 2 || noThing (w0 + 1) v0) = 0) (some (.int (iZ (putYr (ywt (σ 2 (z1.toNat)) w0 v0))))) (gX dC dI dA q (putYs σ (z1.toNat) (ywt (σ 2 (z1.toNat)) w0 v0))) (kA q H0.size)) (kXC (fun E => (ex2 (!inb z1 0 3) (!inb w0 0 2 || noThing (w0 + 1) v0) = 1 ∧ E = "java/lang/IndexOutOfBoundsException") ∨ (ex2 (!inb z1 0 3) (!inb w0 0 2 || noThing (w0 + 1) v0) = 2 ∧ E = "java/lang/IllegalArgumentException"))) 3 18 (kA q H0.size) := by
  refine vx_ofW (cc := cX1_yearWith) (maxL := 4) (ret := (some .int)) (by decide) rfl ?_
  intro p e s m args below meth c s₁ B hml hno hv
  obtain ⟨rfl, hH, hM⟩ := hv
  subst hH
  have hB := hM.2.1
  obtain ⟨tb, tn, tm, htn, hfit, htm, hP⟩ := hG
  have hS : va_S (kA q s.heap.size) s.heap s.heap [] := va_S.rf
  have hx := B.exec
  have hb := B.bytes
  have hr := B.returns
  have hts := atoms_spec (ws := ww_X1_yearWith) B.pre
  have hown : s.vm.findClass RX1 = some m.cls := findClass_of_methodNamed B.named
  have hlocks := B.notSynchronized
  have hl := lv_entry ([.ref (q 0), .int (iZ z1), .int (iZ w0), .int (iZ v0)]) (n := 4) (Nat.le_of_ble_eq_true rfl)
  rw [lg_entry_eq]
  generalize (lg_sl ([.ref (q 0), .int (iZ z1), .int (iZ w0), .int (iZ v0)]) ++ List.replicate (4 - (lg_sl ([.ref (q 0), .int (iZ z1), .int (iZ w0), .int (iZ v0)])).length) Slot.unset).toArray = ls at hl ⊢
  have hl : lv_has ls 4 [(0, .ref (q 0)), (1, .int (iZ z1)), (2, .int (iZ w0)), (3, .int (iZ v0))] := hl
  refine lv_iload_n hx hb dX1_yearWith_0 rfl (lv_at hl 1 rfl) ?_
  refine kcxo (fun _ q => q) (vx_runS (As := [.int (iZ z1)]) (rest := []) ⟨hx, hb, hml, hown, hts⟩ (c_X1_needPlace l hst k _ (z1) (by first | omega | (have e3 := ywt_rng (y := σ 2 p1) (th := w0) (v := v0) (by omega) (by omega); omega))) (va_cwS 1 hts (kg_S mw224 mw225 mw42 rfl mw226) rfl rfl rfl hdS_X1_needPlace ⟨Nat.le_of_ble_eq_true rfl, Nat.le_of_ble_eq_true rfl⟩) ⟨fun a U g mk q => ⟨q.1, q.2.1, kB_call q.2.2⟩, fun U hU hW => ⟨rfl, hU, kB_same hB hU hW⟩⟩ rfl rfl hl.1 rfl (lv_room (Nat.le_of_ble_eq_true rfl)) dX1_yearWith_1 ⟨Nat.le_of_ble_eq_true rfl, Nat.le_of_ble_eq_true rfl⟩) hno hlocks (fun E h => Or.inl ⟨ex2_1 (by have h9 := h.2; (simp only [inb, noThing_iff, noThing_niff, Bool.not_eq_true', Bool.not_eq_false', Bool.or_eq_true, Bool.or_eq_false_iff, decide_eq_true_eq, decide_eq_false_iff_not] <;> omega)), h.1⟩) (Nat.le_of_ble_eq_true rfl) (Nat.le_of_ble_eq_true rfl) (fun g_1 => ?_)
  have g_1 : 0 ≤ (z1) ∧ (z1) ≤ 3 := g_1
  obtain ⟨p1, hp1, rfl⟩ : ∃ p1 : Nat, p1 < 4 ∧ z1 = (p1 : Int) := ⟨z1.toNat, by omega, by omega⟩
  have o_p1 := kOKr hOK hp1
  refine lv_iload_n hx hb dX1_yearWith_4 rfl (lv_at hl 2 rfl) ?_
  refine lv_iconst (v := iZ 0) hx hb dX1_yearWith_5 rfl ?_
  refine lv_iconst (v := iZ 2) hx hb dX1_yearWith_6 rfl ?_
  refine kcxo (fun _ q => q) (vx_runS (As := [.int (iZ w0), .int (iZ 0), .int (iZ 2)]) (rest := []) ⟨hx, hb, hml, hown, hts⟩ (c_X1_needWithin l hst k _ (w0) (0) (2) (by first | omega | (have e3 := ywt_rng (y := σ 2 p1) (th := w0) (v := v0) (by omega) (by omega); omega)) (by first | omega | (have e3 := ywt_rng (y := σ 2 p1) (th := w0) (v := v0) (by omega) (by omega); omega)) (by first | omega | (have e3 := ywt_rng (y := σ 2 p1) (th := w0) (v := v0) (by omega) (by omega); omega))) (va_cwS 3 hts (kg_S mw228 mw229 mw42 rfl mw230) rfl rfl rfl hdS_X1_needWithin ⟨Nat.le_of_ble_eq_true rfl, Nat.le_of_ble_eq_true rfl⟩) ⟨fun a U g mk q => ⟨q.1, q.2.1, kB_call q.2.2⟩, fun U hU hW => ⟨rfl, hU, kB_same hB hU hW⟩⟩ rfl rfl hl.1 rfl (lv_room (Nat.le_of_ble_eq_true rfl)) dX1_yearWith_7 ⟨Nat.le_of_ble_eq_true rfl, Nat.le_of_ble_eq_true rfl⟩) hno hlocks (fun E h => Or.inr ⟨ex2_2 (by (simp only [inb, noThing_iff, noThing_niff, Bool.not_eq_true', Bool.not_eq_false', Bool.or_eq_true, Bool.or_eq_false_iff, decide_eq_true_eq, decide_eq_false_iff_not] <;> omega)) (by have h9 := h.2; (simp only [inb, noThing_iff, noThing_niff, Bool.not_eq_true', Bool.not_eq_false', Bool.or_eq_true, Bool.or_eq_false_iff, decide_eq_true_eq, decide_eq_false_iff_not] <;> omega)), h.1⟩) (Nat.le_of_ble_eq_true rfl) (Nat.le_of_ble_eq_true rfl) (fun g_2 => ?_)
  have g_2 : (0) ≤ (w0) ∧ (w0) ≤ (2) := g_2
  refine lv_iload_n hx hb dX1_yearWith_10 rfl (lv_at hl 2 rfl) ?_
  refine lv_iload_n hx hb dX1_yearWith_11 rfl (lv_at hl 3 rfl) ?_
  refine kcxo (fun _ q => q) (vx_runS (As := [.int (iZ w0), .int (iZ v0)]) (rest := []) ⟨hx, hb, hml, hown, hts⟩ (c_X1_needYearThing l hst k _ (w0) (v0) (by first | omega | (have e3 := ywt_rng (y := σ 2 p1) (th := w0) (v := v0) (by omega) (by omega); omega)) (by first | omega | (have e3 := ywt_rng (y := σ 2 p1) (th := w0) (v := v0) (by omega) (by omega); omega))) (va_cwS 2 hts (kg_S mw690 mw691 mw42 rfl mw692) rfl rfl rfl hdS_X1_needYearThing ⟨Nat.le_of_ble_eq_true rfl, Nat.le_of_ble_eq_true rfl⟩) ⟨fun a U g mk q => ⟨q.1, q.2.1, kB_call q.2.2⟩, fun U hU hW => ⟨rfl, hU, kB_same hB hU hW⟩⟩ rfl rfl hl.1 rfl (lv_room (Nat.le_of_ble_eq_true rfl)) dX1_yearWith_12 ⟨Nat.le_of_ble_eq_true rfl, Nat.le_of_ble_eq_true rfl⟩) hno hlocks (fun E h => Or.inr ⟨ex2_2 (by (simp only [inb, noThing_iff, noThing_niff, Bool.not_eq_true', Bool.not_eq_false', Bool.or_eq_true, Bool.or_eq_false_iff, decide_eq_true_eq, decide_eq_false_iff_not] <;> omega)) (by have h9 := h.2; (simp only [inb, noThing_iff, noThing_niff, Bool.not_eq_true', Bool.not_eq_false', Bool.or_eq_true, Bool.or_eq_false_iff, decide_eq_true_eq, decide_eq_false_iff_not] <;> omega)), h.1⟩) (Nat.le_of_ble_eq_true rfl) (Nat.le_of_ble_eq_true rfl) (fun g_3 => ?_)
  have g_3 : ((w0) = 0 → -999999999 ≤ (v0) ∧ (v0) ≤ 999999999) ∧ ((w0) = 1 → 1 ≤ (v0) ∧ (v0) ≤ 999999999) ∧ (¬ (w0) = 0 → ¬ (w0) = 1 → 0 ≤ (v0) ∧ (v0) ≤ 1) := g_3
  refine lv_aload_n hx hb dX1_yearWith_15 rfl (lv_at hl 0 rfl) ?_
  refine lv_iload_n hx hb dX1_yearWith_16 rfl (lv_at hl 1 rfl) ?_
  refine lv_aload_n hx hb dX1_yearWith_17 rfl (lv_at hl 0 rfl) ?_
  refine va_get (D := (dC, dI)) (ci := 4) (v := .ref (q 2)) (C := RX1) (T := TX1) (N := 8) hx hb hts (fun w h => List.mem_cons_of_mem _ (gF_0_in h)) hown hM.1 hP 0 rfl rfl 1 (by decide) (hts _ (List.mem_cons_of_mem _ mw98)) (fun _ h9 => h9) rfl dX1_yearWith_18 ?_
  refine lv_iload_n hx hb dX1_yearWith_21 rfl (lv_at hl 1 rfl) ?_
  refine kz_iald (v := σ 2 p1) hx hb hM.1 hP 2 0 rfl rfl (by omega) (by decide) rfl dX1_yearWith_22 ?_
  refine lv_iload_n hx hb dX1_yearWith_23 rfl (lv_at hl 2 rfl) ?_
  refine lv_iload_n hx hb dX1_yearWith_24 rfl (lv_at hl 3 rfl) ?_
  refine kc0 (fun _ q => q) (va_runS (As := [.int (iZ (σ 2 p1)), .int (iZ w0), .int (iZ v0)]) (rest := [.int (iZ ((p1 : Nat) : Int)), .ref (q 0)]) ⟨hx, hb, hml, hown, hts⟩ (c_X0_yearWithThing l _ ((σ 2 p1)) (w0) (v0) (by first | omega | (have e3 := ywt_rng (y := σ 2 p1) (th := w0) (v := v0) (by omega) (by omega); omega)) (by first | omega | (have e3 := ywt_rng (y := σ 2 p1) (th := w0) (v := v0) (by omega) (by omega); omega)) (by first | omega | (have e3 := ywt_rng (y := σ 2 p1) (th := w0) (v := v0) (by omega) (by omega); omega))) (va_cwS 3 hts (kg_S mw693 mw694 mw51 rfl mw695) rfl rfl rfl hdS_X0_yearWithThing ⟨Nat.le_of_ble_eq_true rfl, Nat.le_of_ble_eq_true rfl⟩) ⟨fun a U g mk q => q, fun U hU hW => ⟨rfl, hU⟩⟩ rfl rfl hl.1 rfl (lv_room (Nat.le_of_ble_eq_true rfl)) dX1_yearWith_25 ⟨Nat.le_of_ble_eq_true rfl, Nat.le_of_ble_eq_true rfl⟩) ?_
  refine kz_i2l hx hb (by first | omega | (have e3 := ywt_rng (y := σ 2 p1) (th := w0) (v := v0) (by omega) (by omega); omega)) dX1_yearWith_28 ?_
  refine kc2 (va_runV (As := [.int (iZ ((p1 : Nat) : Int)), .long (lZ ((ywt (((σ 2 p1))) ((w0)) ((v0)))))]) (rest := []) ⟨hx, hb, hml, hown, hts⟩ (c_X1_putYear l dC dI dA k q (σ) _ ⟨tb, tn, tm, htn, hfit, htm, hP⟩ (hOK) hq p1 (((ywt (((σ 2 p1))) ((w0)) ((v0))))) hp1 (by first | omega | (have e3 := ywt_rng (y := σ 2 p1) (th := w0) (v := v0) (by omega) (by omega); omega))) (cwV 2 hts (kg_V mw736 mw737 mw21 mw42 rfl mw738) rfl rfl rfl hdV_X1_putYear ⟨Nat.le_of_ble_eq_true rfl, Nat.le_of_ble_eq_true rfl⟩) ⟨fun a U g mk q => ⟨q.1, q.2.1, kM_call q.2.2⟩, va_recv hM.1 hP (ci := 4) (q0 := 0) rfl rfl, fun U hU hW => ⟨rfl, hU, kM_kept hM hS (kA_N hq hM.2.1.1) hU hW⟩⟩ rfl rfl hl.1 rfl (lv_room (Nat.le_of_ble_eq_true rfl)) dX1_yearWith_29 ⟨Nat.le_of_ble_eq_true rfl, Nat.le_of_ble_eq_true rfl⟩) hS (fun a _ h => kA_up hS.1 a h) (fun a h => kA_up hS.1 a h) (fun H locs hG hz9 hk9 hS => ?_)
  obtain ⟨tb, tn, tm, htn, hfit, htm, hP⟩ := hG
  refine W.widen (k := 3) (n := 18) (Nat.le_of_ble_eq_true rfl) (Nat.le_of_ble_eq_true rfl) ?_
  refine vx_ret ?_
  exact W.iret (v := iZ (putYr ((((ywt (((σ 2 p1))) ((w0)) ((v0)))))))) hx hb hr (fun t ht hW => ⟨⟨⟨congrArg (fun z : Int => Outcome.returned (some (Value.int (iZ z)))) (show (putYr ((((ywt (((σ 2 p1))) ((w0)) ((v0))))))) = (putYr (ywt (σ 2 p1) w0 v0)) from by rfl), gX_cast ⟨tb, tn, tm, htn, hfit, htm, by rw [ht]; exact hP⟩ (show (putYs σ p1 ((((ywt (((σ 2 p1))) ((w0)) ((v0))))))) = (putYs σ p1 (ywt (σ 2 p1) w0 v0)) from by rfl)⟩, hS.F ht⟩, ex2_0 (by (simp only [inb, noThing_iff, noThing_niff, Bool.not_eq_true', Bool.not_eq_false', Bool.or_eq_true, Bool.or_eq_false_iff, decide_eq_true_eq, decide_eq_false_iff_not] <;> omega)) (by (simp only [inb, noThing_iff, noThing_niff, Bool.not_eq_true', Bool.not_eq_false', Bool.or_eq_true, Bool.or_eq_false_iff, decide_eq_true_eq, decide_eq_false_iff_not] <;> omega))⟩) hS.2.2 dX1_yearWith_32

abbrev ww_X1_feast : List Cond := .code yX1_feast cX1_feast 4 (some .int) :: gT
set_option maxHeartbeats 4000000 in
set_option maxRecDepth 100000 in
theorem c_X1_feast (l : Launch) (hst : l.stackTraces = false) (dC : Nat → ClassId) (dI : Nat → Nat → Nat) (dA : Nat → ClassId) (k : Nat → Nat) (q : Nat → Nat) (σ : Nat → Nat → Int) (H0 : Heap) (hG : gX dC dI dA q σ H0) (hOK : kOK σ) (hq : kQI q k) (z1 : Int) (mo : Int) (dd : Int) (rz1 : -2147483648 ≤ z1 ∧ z1 < 2147483648) (rmo : -2147483648 ≤ mo ∧ mo < 2147483648) (rdd : -2147483648 ≤ dd ∧ dd < 2147483648) : vx_Met l yX1_feast ww_X1_feast ({ frames := 10, cells := 3, slots := 18, locals := 342 }) (va_Pc [.ref (q 0), .int (iZ z1), .int (iZ mo), .int (iZ dd)] (fun U => U.heap = H0 ∧ kM dC dI dA k U)) (kQ2x (ex2 (!inb z1 0 3) (!inb mo 1 12 || !inb dd 1 31) = 0) (some (.int (iZ (if putFr mo dd = true then bZ (decide (mo ≠ 2 ∨ dd ≤ 28)) else -9)))) (gX dC dI dA q (putFs σ (z1.toNat) mo dd)) (kA q H0.size)) (kXC (fun E => (ex2 (!inb z1 0 3) (!inb mo 1 12 || !inb dd 1 31) = 1 ∧ E = "java/lang/IndexOutOfBoundsException") ∨ (ex2 (!inb z1 0 3) (!inb mo 1 12 || !inb dd 1 31) = 2 ∧ E = "java/lang/IllegalArgumentException"))) 3 18 (kA q H0.size) := by
  refine vx_ofW (cc := cX1_feast) (maxL := 4) (ret := (some .int)) (by decide) rfl ?_
  intro p e s m args below meth c s₁ B hml hno hv
  obtain ⟨rfl, hH, hM⟩ := hv
  subst hH
  have hB := hM.2.1
  obtain ⟨tb, tn, tm, htn, hfit, htm, hP⟩ := hG
  have hS : va_S (kA q s.heap.size) s.heap s.heap [] := va_S.rf
  have hx := B.exec
  have hb := B.bytes
  have hr := B.returns
  have hts := atoms_spec (ws := ww_X1_feast) B.pre
  have hown : s.vm.findClass RX1 = some m.cls := findClass_of_methodNamed B.named
  have hlocks := B.notSynchronized
  have hl := lv_entry ([.ref (q 0), .int (iZ z1), .int (iZ mo), .int (iZ dd)]) (n := 4) (Nat.le_of_ble_eq_true rfl)
  rw [lg_entry_eq]
  generalize (lg_sl ([.ref (q 0), .int (iZ z1), .int (iZ mo), .int (iZ dd)]) ++ List.replicate (4 - (lg_sl ([.ref (q 0), .int (iZ z1), .int (iZ mo), .int (iZ dd)])).length) Slot.unset).toArray = ls at hl ⊢
  have hl : lv_has ls 4 [(0, .ref (q 0)), (1, .int (iZ z1)), (2, .int (iZ mo)), (3, .int (iZ dd))] := hl
  refine lv_iload_n hx hb dX1_feast_0 rfl (lv_at hl 1 rfl) ?_
  refine kcxo (fun _ q => q) (vx_runS (As := [.int (iZ z1)]) (rest := []) ⟨hx, hb, hml, hown, hts⟩ (c_X1_needPlace l hst k _ (z1) (by omega)) (va_cwS 1 hts (kg_S mw224 mw225 mw42 rfl mw226) rfl rfl rfl hdS_X1_needPlace ⟨Nat.le_of_ble_eq_true rfl, Nat.le_of_ble_eq_true rfl⟩) ⟨fun a U g mk q => ⟨q.1, q.2.1, kB_call q.2.2⟩, fun U hU hW => ⟨rfl, hU, kB_same hB hU hW⟩⟩ rfl rfl hl.1 rfl (lv_room (Nat.le_of_ble_eq_true rfl)) dX1_feast_1 ⟨Nat.le_of_ble_eq_true rfl, Nat.le_of_ble_eq_true rfl⟩) hno hlocks (fun E h => Or.inl ⟨ex2_1 (by have h9 := h.2; (simp only [inb, noThing_iff, noThing_niff, Bool.not_eq_true', Bool.not_eq_false', Bool.or_eq_true, Bool.or_eq_false_iff, decide_eq_true_eq, decide_eq_false_iff_not] <;> omega)), h.1⟩) (Nat.le_of_ble_eq_true rfl) (Nat.le_of_ble_eq_true rfl) (fun g_1 => ?_)
  have g_1 : 0 ≤ (z1) ∧ (z1) ≤ 3 := g_1
  obtain ⟨p1, hp1, rfl⟩ : ∃ p1 : Nat, p1 < 4 ∧ z1 = (p1 : Int) := ⟨z1.toNat, by omega, by omega⟩
  have o_p1 := kOKr hOK hp1
  refine lv_iload_n hx hb dX1_feast_4 rfl (lv_at hl 2 rfl) ?_
  refine kcxo (fun _ q => q) (vx_runS (As := [.int (iZ mo)]) (rest := []) ⟨hx, hb, hml, hown, hts⟩ (c_X1_needMonth l hst k _ (mo) (by omega)) (va_cwS 1 hts (kg_S mw613 mw614 mw42 rfl mw615) rfl rfl rfl hdS_X1_needMonth ⟨Nat.le_of_ble_eq_true rfl, Nat.le_of_ble_eq_true rfl⟩) ⟨fun a U g mk q => ⟨q.1, q.2.1, kB_call q.2.2⟩, fun U hU hW => ⟨rfl, hU, kB_same hB hU hW⟩⟩ rfl rfl hl.1 rfl (lv_room (Nat.le_of_ble_eq_true rfl)) dX1_feast_5 ⟨Nat.le_of_ble_eq_true rfl, Nat.le_of_ble_eq_true rfl⟩) hno hlocks (fun E h => Or.inr ⟨ex2_2 (by (simp only [inb, noThing_iff, noThing_niff, Bool.not_eq_true', Bool.not_eq_false', Bool.or_eq_true, Bool.or_eq_false_iff, decide_eq_true_eq, decide_eq_false_iff_not] <;> omega)) (by have h9 := h.2; (simp only [inb, noThing_iff, noThing_niff, Bool.not_eq_true', Bool.not_eq_false', Bool.or_eq_true, Bool.or_eq_false_iff, decide_eq_true_eq, decide_eq_false_iff_not] <;> omega)), h.1⟩) (Nat.le_of_ble_eq_true rfl) (Nat.le_of_ble_eq_true rfl) (fun g_2 => ?_)
  have g_2 : 1 ≤ (mo) ∧ (mo) ≤ 12 := g_2
  refine lv_iload_n hx hb dX1_feast_8 rfl (lv_at hl 3 rfl) ?_
  refine kcxo (fun _ q => q) (vx_runS (As := [.int (iZ dd)]) (rest := []) ⟨hx, hb, hml, hown, hts⟩ (c_X1_needDayOfMonth l hst k _ (dd) (by omega)) (va_cwS 1 hts (kg_S mw787 mw788 mw42 rfl mw789) rfl rfl rfl hdS_X1_needDayOfMonth ⟨Nat.le_of_ble_eq_true rfl, Nat.le_of_ble_eq_true rfl⟩) ⟨fun a U g mk q => ⟨q.1, q.2.1, kB_call q.2.2⟩, fun U hU hW => ⟨rfl, hU, kB_same hB hU hW⟩⟩ rfl rfl hl.1 rfl (lv_room (Nat.le_of_ble_eq_true rfl)) dX1_feast_9 ⟨Nat.le_of_ble_eq_true rfl, Nat.le_of_ble_eq_true rfl⟩) hno hlocks (fun E h => Or.inr ⟨ex2_2 (by (simp only [inb, noThing_iff, noThing_niff, Bool.not_eq_true', Bool.not_eq_false', Bool.or_eq_true, Bool.or_eq_false_iff, decide_eq_true_eq, decide_eq_false_iff_not] <;> omega)) (by have h9 := h.2; (simp only [inb, noThing_iff, noThing_niff, Bool.not_eq_true', Bool.not_eq_false', Bool.or_eq_true, Bool.or_eq_false_iff, decide_eq_true_eq, decide_eq_false_iff_not] <;> omega)), h.1⟩) (Nat.le_of_ble_eq_true rfl) (Nat.le_of_ble_eq_true rfl) (fun g_3 => ?_)
  have g_3 : 1 ≤ (dd) ∧ (dd) ≤ 31 := g_3
  refine lv_aload_n hx hb dX1_feast_12 rfl (lv_at hl 0 rfl) ?_
  refine lv_iload_n hx hb dX1_feast_13 rfl (lv_at hl 1 rfl) ?_
  refine lv_iload_n hx hb dX1_feast_14 rfl (lv_at hl 2 rfl) ?_
  refine lv_iload_n hx hb dX1_feast_15 rfl (lv_at hl 3 rfl) ?_
  refine kc2 (va_runV (As := [.int (iZ ((p1 : Nat) : Int)), .int (iZ mo), .int (iZ dd)]) (rest := []) ⟨hx, hb, hml, hown, hts⟩ (c_X1_putFeast l dC dI dA k q (σ) _ ⟨tb, tn, tm, htn, hfit, htm, hP⟩ (hOK) hq p1 (mo) (dd) hp1 (by omega) (by omega)) (cwV 3 hts (kg_V mw790 mw791 mw23 mw42 rfl mw792) rfl rfl rfl hdV_X1_putFeast ⟨Nat.le_of_ble_eq_true rfl, Nat.le_of_ble_eq_true rfl⟩) ⟨fun a U g mk q => ⟨q.1, q.2.1, kM_call q.2.2⟩, va_recv hM.1 hP (ci := 4) (q0 := 0) rfl rfl, fun U hU hW => ⟨rfl, hU, kM_kept hM hS (kA_N hq hM.2.1.1) hU hW⟩⟩ rfl rfl hl.1 rfl (lv_room (Nat.le_of_ble_eq_true rfl)) dX1_feast_16 ⟨Nat.le_of_ble_eq_true rfl, Nat.le_of_ble_eq_true rfl⟩) hS (fun a _ h => kA_up hS.1 a h) (fun a h => kA_up hS.1 a h) (fun H locs hG hz9 hk9 hS => ?_)
  obtain ⟨tb, tn, tm, htn, hfit, htm, hP⟩ := hG
  refine kz_ifb_ne (tgt := 25) hx hb  dX1_feast_19 (by decide) (fun c_4 => ?_) (fun c_4 => ?_)
  · refine lv_iload_n hx hb dX1_feast_25 rfl (lv_at hl 2 rfl) ?_
    refine lv_iload_n hx hb dX1_feast_26 rfl (lv_at hl 3 rfl) ?_
    refine kc0 (fun _ q => q) (va_runS (As := [.int (iZ mo), .int (iZ dd)]) (rest := []) ⟨hx, hb, hml, hown, hts⟩ (c_X0_isInEachYear l _ (mo) (dd) (by omega) (by omega)) (va_cwS 2 hts (kg_S mw205 mw206 mw51 rfl mw207) rfl rfl rfl hdS_X0_isInEachYear ⟨Nat.le_of_ble_eq_true rfl, Nat.le_of_ble_eq_true rfl⟩) ⟨fun a U g mk q => q, fun U hU hW => ⟨rfl, hU⟩⟩ rfl rfl hl.1 rfl (lv_room (Nat.le_of_ble_eq_true rfl)) dX1_feast_27 ⟨Nat.le_of_ble_eq_true rfl, Nat.le_of_ble_eq_true rfl⟩) ?_
    refine kc0 (fun _ q => q) (va_runS (As := [.int (iZ (bZ (decide (((mo)) ≠ 2 ∨ ((dd)) ≤ 28))))]) (rest := []) ⟨hx, hb, hml, hown, hts⟩ (c_X1_oneIf l _ (decide (((mo)) ≠ 2 ∨ ((dd)) ≤ 28))) (va_cwS 1 hts (kg_S mw176 mw177 mw42 rfl mw178) rfl rfl rfl hdS_X1_oneIf ⟨Nat.le_of_ble_eq_true rfl, Nat.le_of_ble_eq_true rfl⟩) ⟨fun a U g mk q => q, fun U hU hW => ⟨rfl, hU⟩⟩ rfl rfl hl.1 rfl (lv_room (Nat.le_of_ble_eq_true rfl)) dX1_feast_30 ⟨Nat.le_of_ble_eq_true rfl, Nat.le_of_ble_eq_true rfl⟩) ?_
    refine W.widen (k := 3) (n := 18) (Nat.le_of_ble_eq_true rfl) (Nat.le_of_ble_eq_true rfl) ?_
    refine vx_ret ?_
    exact W.iret (v := iZ (bZ ((decide (((mo)) ≠ 2 ∨ ((dd)) ≤ 28))))) hx hb hr (fun t ht hW => ⟨⟨⟨congrArg (fun z : Int => Outcome.returned (some (Value.int (iZ z)))) (show (bZ ((decide (((mo)) ≠ 2 ∨ ((dd)) ≤ 28)))) = (if putFr mo dd = true then bZ (decide (mo ≠ 2 ∨ dd ≤ 28)) else -9) from by rw [if_pos (by assumption)]), gX_cast ⟨tb, tn, tm, htn, hfit, htm, by rw [ht]; exact hP⟩ (show (putFs σ p1 ((mo)) ((dd))) = (putFs σ p1 mo dd) from by rfl)⟩, hS.F ht⟩, ex2_0 (by (simp only [inb, noThing_iff, noThing_niff, Bool.not_eq_true', Bool.not_eq_false', Bool.or_eq_true, Bool.or_eq_false_iff, decide_eq_true_eq, decide_eq_false_iff_not] <;> omega)) (by (simp only [inb, noThing_iff, noThing_niff, Bool.not_eq_true', Bool.not_eq_false', Bool.or_eq_true, Bool.or_eq_false_iff, decide_eq_true_eq, decide_eq_false_iff_not] <;> omega))⟩) hS.2.2 dX1_feast_33
  · refine lv_bipush (v := iZ (-9)) hx hb dX1_feast_22 rfl ?_
    refine W.widen (k := 3) (n := 18) (Nat.le_of_ble_eq_true rfl) (Nat.le_of_ble_eq_true rfl) ?_
    refine vx_ret ?_
    exact W.iret (v := iZ ((-9))) hx hb hr (fun t ht hW => ⟨⟨⟨congrArg (fun z : Int => Outcome.returned (some (Value.int (iZ z)))) (show ((-9)) = (if putFr mo dd = true then bZ (decide (mo ≠ 2 ∨ dd ≤ 28)) else -9) from by rw [if_neg (by simp [*])]), gX_cast ⟨tb, tn, tm, htn, hfit, htm, by rw [ht]; exact hP⟩ (show (putFs σ p1 ((mo)) ((dd))) = (putFs σ p1 mo dd) from by rfl)⟩, hS.F ht⟩, ex2_0 (by (simp only [inb, noThing_iff, noThing_niff, Bool.not_eq_true', Bool.not_eq_false', Bool.or_eq_true, Bool.or_eq_false_iff, decide_eq_true_eq, decide_eq_false_iff_not] <;> omega)) (by (simp only [inb, noThing_iff, noThing_niff, Bool.not_eq_true', Bool.not_eq_false', Bool.or_eq_true, Bool.or_eq_false_iff, decide_eq_true_eq, decide_eq_false_iff_not] <;> omega))⟩) hS.2.2 dX1_feast_24

abbrev ww_X1_feastRound : List Cond := .code yX1_feastRound cX1_feastRound 5 (some .int) :: gT
set_option maxHeartbeats 4000000 in
set_option maxRecDepth 100000 in
theorem c_X1_feastRound (l : Launch) (hst : l.stackTraces = false) (dC : Nat → ClassId) (dI : Nat → Nat → Nat) (dA : Nat → ClassId) (k : Nat → Nat) (q : Nat → Nat) (σ : Nat → Nat → Int) (H0 : Heap) (hG : gX dC dI dA q σ H0) (hOK : kOK σ) (hq : kQI q k) (z1 : Int) (mm : Int) (dd : Int) (rz1 : -2147483648 ≤ z1 ∧ z1 < 2147483648) (rmm : -2147483648 ≤ mm ∧ mm < 2147483648) (rdd : -2147483648 ≤ dd ∧ dd < 2147483648) : vx_Met l yX1_feastRound ww_X1_feastRound ({ frames := 10, cells := 2, slots := 12, locals := 342 }) (va_Pc [.ref (q 0), .int (iZ z1), .int (iZ mm), .int (iZ dd)] (fun U => U.heap = H0 ∧ kM dC dI dA k U)) (kQ2x (ex2 (!inb z1 0 3) (!inb dd 1 31) = 0) (some (.int (iZ (if putFr (1 + mm % 12) dd = true then 1 + mm % 12 else -9)))) (gX dC dI dA q (putFs σ (z1.toNat) (1 + mm % 12) dd)) (kA q H0.size)) (kXC (fun E => (ex2 (!inb z1 0 3) (!inb dd 1 31) = 1 ∧ E = "java/lang/IndexOutOfBoundsException") ∨ (ex2 (!inb z1 0 3) (!inb dd 1 31) = 2 ∧ E = "java/lang/IllegalArgumentException"))) 2 12 (kA q H0.size) := by
  refine vx_ofW (cc := cX1_feastRound) (maxL := 5) (ret := (some .int)) (by decide) rfl ?_
  intro p e s m args below meth c s₁ B hml hno hv
  obtain ⟨rfl, hH, hM⟩ := hv
  subst hH
  have hB := hM.2.1
  obtain ⟨tb, tn, tm, htn, hfit, htm, hP⟩ := hG
  have hS : va_S (kA q s.heap.size) s.heap s.heap [] := va_S.rf
  have hx := B.exec
  have hb := B.bytes
  have hr := B.returns
  have hts := atoms_spec (ws := ww_X1_feastRound) B.pre
  have hown : s.vm.findClass RX1 = some m.cls := findClass_of_methodNamed B.named
  have hlocks := B.notSynchronized
  have hl := lv_entry ([.ref (q 0), .int (iZ z1), .int (iZ mm), .int (iZ dd)]) (n := 5) (Nat.le_of_ble_eq_true rfl)
  rw [lg_entry_eq]
  generalize (lg_sl ([.ref (q 0), .int (iZ z1), .int (iZ mm), .int (iZ dd)]) ++ List.replicate (5 - (lg_sl ([.ref (q 0), .int (iZ z1), .int (iZ mm), .int (iZ dd)])).length) Slot.unset).toArray = ls at hl ⊢
  have hl : lv_has ls 5 [(0, .ref (q 0)), (1, .int (iZ z1)), (2, .int (iZ mm)), (3, .int (iZ dd))] := hl
  refine lv_iload_n hx hb dX1_feastRound_0 rfl (lv_at hl 1 rfl) ?_
  refine kcxo (fun _ q => q) (vx_runS (As := [.int (iZ z1)]) (rest := []) ⟨hx, hb, hml, hown, hts⟩ (c_X1_needPlace l hst k _ (z1) (by omega)) (va_cwS 1 hts (kg_S mw224 mw225 mw42 rfl mw226) rfl rfl rfl hdS_X1_needPlace ⟨Nat.le_of_ble_eq_true rfl, Nat.le_of_ble_eq_true rfl⟩) ⟨fun a U g mk q => ⟨q.1, q.2.1, kB_call q.2.2⟩, fun U hU hW => ⟨rfl, hU, kB_same hB hU hW⟩⟩ rfl rfl hl.1 rfl (lv_room (Nat.le_of_ble_eq_true rfl)) dX1_feastRound_1 ⟨Nat.le_of_ble_eq_true rfl, Nat.le_of_ble_eq_true rfl⟩) hno hlocks (fun E h => Or.inl ⟨ex2_1 (by have h9 := h.2; (simp only [inb, noThing_iff, noThing_niff, Bool.not_eq_true', Bool.not_eq_false', Bool.or_eq_true, Bool.or_eq_false_iff, decide_eq_true_eq, decide_eq_false_iff_not] <;> omega)), h.1⟩) (Nat.le_of_ble_eq_true rfl) (Nat.le_of_ble_eq_true rfl) (fun g_1 => ?_)
  have g_1 : 0 ≤ (z1) ∧ (z1) ≤ 3 := g_1
  obtain ⟨p1, hp1, rfl⟩ : ∃ p1 : Nat, p1 < 4 ∧ z1 = (p1 : Int) := ⟨z1.toNat, by omega, by omega⟩
  have o_p1 := kOKr hOK hp1
  refine lv_iload_n hx hb dX1_feastRound_4 rfl (lv_at hl 3 rfl) ?_
  refine kcxo (fun _ q => q) (vx_runS (As := [.int (iZ dd)]) (rest := []) ⟨hx, hb, hml, hown, hts⟩ (c_X1_needDayOfMonth l hst k _ (dd) (by omega)) (va_cwS 1 hts (kg_S mw787 mw788 mw42 rfl mw789) rfl rfl rfl hdS_X1_needDayOfMonth ⟨Nat.le_of_ble_eq_true rfl, Nat.le_of_ble_eq_true rfl⟩) ⟨fun a U g mk q => ⟨q.1, q.2.1, kB_call q.2.2⟩, fun U hU hW => ⟨rfl, hU, kB_same hB hU hW⟩⟩ rfl rfl hl.1 rfl (lv_room (Nat.le_of_ble_eq_true rfl)) dX1_feastRound_5 ⟨Nat.le_of_ble_eq_true rfl, Nat.le_of_ble_eq_true rfl⟩) hno hlocks (fun E h => Or.inr ⟨ex2_2 (by (simp only [inb, noThing_iff, noThing_niff, Bool.not_eq_true', Bool.not_eq_false', Bool.or_eq_true, Bool.or_eq_false_iff, decide_eq_true_eq, decide_eq_false_iff_not] <;> omega)) (by have h9 := h.2; (simp only [inb, noThing_iff, noThing_niff, Bool.not_eq_true', Bool.not_eq_false', Bool.or_eq_true, Bool.or_eq_false_iff, decide_eq_true_eq, decide_eq_false_iff_not] <;> omega)), h.1⟩) (Nat.le_of_ble_eq_true rfl) (Nat.le_of_ble_eq_true rfl) (fun g_2 => ?_)
  have g_2 : 1 ≤ (dd) ∧ (dd) ≤ 31 := g_2
  refine lv_iload_n hx hb dX1_feastRound_8 rfl (lv_at hl 2 rfl) ?_
  refine kc0 (fun _ q => q) (va_runS (As := [.int (iZ mm)]) (rest := []) ⟨hx, hb, hml, hown, hts⟩ (c_X0_monthBehindFirst l _ (mm) (by omega)) (va_cwS 1 hts (kg_S mw627 mw628 mw51 rfl mw629) rfl rfl rfl hdS_X0_monthBehindFirst ⟨Nat.le_of_ble_eq_true rfl, Nat.le_of_ble_eq_true rfl⟩) ⟨fun a U g mk q => q, fun U hU hW => ⟨rfl, hU⟩⟩ rfl rfl hl.1 rfl (lv_room (Nat.le_of_ble_eq_true rfl)) dX1_feastRound_9 ⟨Nat.le_of_ble_eq_true rfl, Nat.le_of_ble_eq_true rfl⟩) ?_
  refine lv_istore (lv' := [(4, .int (iZ (1 + ((mm)) % 12))), (0, .ref (q 0)), (1, .int (iZ ((p1 : Nat) : Int))), (2, .int (iZ mm)), (3, .int (iZ dd))]) hx hb dX1_feastRound_12 hl (by decide) rfl (fun ls hl => ?_)
  refine lv_aload_n hx hb dX1_feastRound_14 rfl (lv_at hl 1 rfl) ?_
  refine lv_iload_n hx hb dX1_feastRound_15 rfl (lv_at hl 2 rfl) ?_
  refine lv_iload hx hb dX1_feastRound_16 (lv_at hl 0 rfl) ?_
  refine lv_iload_n hx hb dX1_feastRound_18 rfl (lv_at hl 4 rfl) ?_
  refine kc2 (va_runV (As := [.int (iZ ((p1 : Nat) : Int)), .int (iZ (1 + ((mm)) % 12)), .int (iZ dd)]) (rest := []) ⟨hx, hb, hml, hown, hts⟩ (c_X1_putFeast l dC dI dA k q (σ) _ ⟨tb, tn, tm, htn, hfit, htm, hP⟩ (hOK) hq p1 ((1 + ((mm)) % 12)) (dd) hp1 (by omega) (by omega)) (cwV 3 hts (kg_V mw790 mw791 mw23 mw42 rfl mw792) rfl rfl rfl hdV_X1_putFeast ⟨Nat.le_of_ble_eq_true rfl, Nat.le_of_ble_eq_true rfl⟩) ⟨fun a U g mk q => ⟨q.1, q.2.1, kM_call q.2.2⟩, va_recv hM.1 hP (ci := 4) (q0 := 0) rfl rfl, fun U hU hW => ⟨rfl, hU, kM_kept hM hS (kA_N hq hM.2.1.1) hU hW⟩⟩ rfl rfl hl.1 rfl (lv_room (Nat.le_of_ble_eq_true rfl)) dX1_feastRound_19 ⟨Nat.le_of_ble_eq_true rfl, Nat.le_of_ble_eq_true rfl⟩) hS (fun a _ h => kA_up hS.1 a h) (fun a h => kA_up hS.1 a h) (fun H locs hG hz9 hk9 hS => ?_)
  obtain ⟨tb, tn, tm, htn, hfit, htm, hP⟩ := hG
  refine kz_ifb_eq (tgt := 30) hx hb  dX1_feastRound_22 (by decide) (fun c_3 => ?_) (fun c_3 => ?_)
  · refine lv_bipush (v := iZ (-9)) hx hb dX1_feastRound_30 rfl ?_
    refine W.widen (k := 2) (n := 12) (Nat.le_of_ble_eq_true rfl) (Nat.le_of_ble_eq_true rfl) ?_
    refine vx_ret ?_
    exact W.iret (v := iZ ((-9))) hx hb hr (fun t ht hW => ⟨⟨⟨congrArg (fun z : Int => Outcome.returned (some (Value.int (iZ z)))) (show ((-9)) = (if putFr (1 + mm % 12) dd = true then 1 + mm % 12 else -9) from by rw [if_neg (by simp [*])]), gX_cast ⟨tb, tn, tm, htn, hfit, htm, by rw [ht]; exact hP⟩ (show (putFs σ p1 (((1 + ((mm)) % 12))) ((dd))) = (putFs σ p1 (1 + mm % 12) dd) from by rfl)⟩, hS.F ht⟩, ex2_0 (by (simp only [inb, noThing_iff, noThing_niff, Bool.not_eq_true', Bool.not_eq_false', Bool.or_eq_true, Bool.or_eq_false_iff, decide_eq_true_eq, decide_eq_false_iff_not] <;> omega)) (by (simp only [inb, noThing_iff, noThing_niff, Bool.not_eq_true', Bool.not_eq_false', Bool.or_eq_true, Bool.or_eq_false_iff, decide_eq_true_eq, decide_eq_false_iff_not] <;> omega))⟩) hS.2.2 dX1_feastRound_32
  · refine lv_iload hx hb dX1_feastRound_25 (lv_at hl 0 rfl) ?_
    refine lv_goto (tgt := 32) hx hb dX1_feastRound_27 (by decide) ?_
    refine W.widen (k := 2) (n := 12) (Nat.le_of_ble_eq_true rfl) (Nat.le_of_ble_eq_true rfl) ?_
    refine vx_ret ?_
    exact W.iret (v := iZ (1 + ((mm)) % 12)) hx hb hr (fun t ht hW => ⟨⟨⟨congrArg (fun z : Int => Outcome.returned (some (Value.int (iZ z)))) (show (1 + ((mm)) % 12) = (if putFr (1 + mm % 12) dd = true then 1 + mm % 12 else -9) from by rw [if_pos (by assumption)]), gX_cast ⟨tb, tn, tm, htn, hfit, htm, by rw [ht]; exact hP⟩ (show (putFs σ p1 (((1 + ((mm)) % 12))) ((dd))) = (putFs σ p1 (1 + mm % 12) dd) from by rfl)⟩, hS.F ht⟩, ex2_0 (by (simp only [inb, noThing_iff, noThing_niff, Bool.not_eq_true', Bool.not_eq_false', Bool.or_eq_true, Bool.or_eq_false_iff, decide_eq_true_eq, decide_eq_false_iff_not] <;> omega)) (by (simp only [inb, noThing_iff, noThing_niff, Bool.not_eq_true', Bool.not_eq_false', Bool.or_eq_true, Bool.or_eq_false_iff, decide_eq_true_eq, decide_eq_false_iff_not] <;> omega))⟩) hS.2.2 dX1_feastRound_32

abbrev ww_X1_feastMonth : List Cond := .code yX1_feastMonth cX1_feastMonth 5 (some .int) :: gT
set_option maxHeartbeats 4000000 in
set_option maxRecDepth 100000 in
theorem c_X1_feastMonth (l : Launch) (hst : l.stackTraces = false) (dC : Nat → ClassId) (dI : Nat → Nat → Nat) (dA : Nat → ClassId) (k : Nat → Nat) (q : Nat → Nat) (σ : Nat → Nat → Int) (H0 : Heap) (hG : gX dC dI dA q σ H0) (hOK : kOK σ) (hq : kQI q k) (z1 : Int) (mo : Int) (bb : Bool) (rz1 : -2147483648 ≤ z1 ∧ z1 < 2147483648) (rmo : -2147483648 ≤ mo ∧ mo < 2147483648) : vx_Met l yX1_feastMonth ww_X1_feastMonth ({ frames := 10, cells := 2, slots := 12, locals := 342 }) (va_Pc [.ref (q 0), .int (iZ z1), .int (iZ mo), .int (iZ (bZ (bb)))] (fun U => U.heap = H0 ∧ kM dC dI dA k U)) (kQ2x (ex2 (!inb z1 0 3) (!inb mo 1 12) = 0) (some (.int (iZ (mn2 (σ 4 (z1.toNat)) (mlen true mo))))) (gX dC dI dA q (putFs σ (z1.toNat) mo (mn2 (σ 4 (z1.toNat)) (mlen true mo)))) (kA q H0.size)) (kXC (fun E => (ex2 (!inb z1 0 3) (!inb mo 1 12) = 1 ∧ E = "java/lang/IndexOutOfBoundsException") ∨ (ex2 (!inb z1 0 3) (!inb mo 1 12) = 2 ∧ E = "java/lang/IllegalArgumentException"))) 2 12 (kA q H0.size) := by
  refine vx_ofW (cc := cX1_feastMonth) (maxL := 5) (ret := (some .int)) (by decide) rfl ?_
  intro p e s m args below meth c s₁ B hml hno hv
  obtain ⟨rfl, hH, hM⟩ := hv
  subst hH
  have hB := hM.2.1
  obtain ⟨tb, tn, tm, htn, hfit, htm, hP⟩ := hG
  have hS : va_S (kA q s.heap.size) s.heap s.heap [] := va_S.rf
  have hx := B.exec
  have hb := B.bytes
  have hr := B.returns
  have hts := atoms_spec (ws := ww_X1_feastMonth) B.pre
  have hown : s.vm.findClass RX1 = some m.cls := findClass_of_methodNamed B.named
  have hlocks := B.notSynchronized
  have hl := lv_entry ([.ref (q 0), .int (iZ z1), .int (iZ mo), .int (iZ (bZ (bb)))]) (n := 5) (Nat.le_of_ble_eq_true rfl)
  rw [lg_entry_eq]
  generalize (lg_sl ([.ref (q 0), .int (iZ z1), .int (iZ mo), .int (iZ (bZ (bb)))]) ++ List.replicate (5 - (lg_sl ([.ref (q 0), .int (iZ z1), .int (iZ mo), .int (iZ (bZ (bb)))])).length) Slot.unset).toArray = ls at hl ⊢
  have hl : lv_has ls 5 [(0, .ref (q 0)), (1, .int (iZ z1)), (2, .int (iZ mo)), (3, .int (iZ (bZ (bb))))] := hl
  refine lv_iload_n hx hb dX1_feastMonth_0 rfl (lv_at hl 1 rfl) ?_
  refine kcxo (fun _ q => q) (vx_runS (As := [.int (iZ z1)]) (rest := []) ⟨hx, hb, hml, hown, hts⟩ (c_X1_needPlace l hst k _ (z1) (by first | omega | (have := mlen_rng true mo; first | omega | (unfold mn2; (try split) <;> omega)))) (va_cwS 1 hts (kg_S mw224 mw225 mw42 rfl mw226) rfl rfl rfl hdS_X1_needPlace ⟨Nat.le_of_ble_eq_true rfl, Nat.le_of_ble_eq_true rfl⟩) ⟨fun a U g mk q => ⟨q.1, q.2.1, kB_call q.2.2⟩, fun U hU hW => ⟨rfl, hU, kB_same hB hU hW⟩⟩ rfl rfl hl.1 rfl (lv_room (Nat.le_of_ble_eq_true rfl)) dX1_feastMonth_1 ⟨Nat.le_of_ble_eq_true rfl, Nat.le_of_ble_eq_true rfl⟩) hno hlocks (fun E h => Or.inl ⟨ex2_1 (by have h9 := h.2; (simp only [inb, noThing_iff, noThing_niff, Bool.not_eq_true', Bool.not_eq_false', Bool.or_eq_true, Bool.or_eq_false_iff, decide_eq_true_eq, decide_eq_false_iff_not] <;> omega)), h.1⟩) (Nat.le_of_ble_eq_true rfl) (Nat.le_of_ble_eq_true rfl) (fun g_1 => ?_)
  have g_1 : 0 ≤ (z1) ∧ (z1) ≤ 3 := g_1
  obtain ⟨p1, hp1, rfl⟩ : ∃ p1 : Nat, p1 < 4 ∧ z1 = (p1 : Int) := ⟨z1.toNat, by omega, by omega⟩
  have o_p1 := kOKr hOK hp1
  refine lv_iload_n hx hb dX1_feastMonth_4 rfl (lv_at hl 2 rfl) ?_
  refine kcxo (fun _ q => q) (vx_runS (As := [.int (iZ mo)]) (rest := []) ⟨hx, hb, hml, hown, hts⟩ (c_X1_needMonth l hst k _ (mo) (by first | omega | (have := mlen_rng true mo; first | omega | (unfold mn2; (try split) <;> omega)))) (va_cwS 1 hts (kg_S mw613 mw614 mw42 rfl mw615) rfl rfl rfl hdS_X1_needMonth ⟨Nat.le_of_ble_eq_true rfl, Nat.le_of_ble_eq_true rfl⟩) ⟨fun a U g mk q => ⟨q.1, q.2.1, kB_call q.2.2⟩, fun U hU hW => ⟨rfl, hU, kB_same hB hU hW⟩⟩ rfl rfl hl.1 rfl (lv_room (Nat.le_of_ble_eq_true rfl)) dX1_feastMonth_5 ⟨Nat.le_of_ble_eq_true rfl, Nat.le_of_ble_eq_true rfl⟩) hno hlocks (fun E h => Or.inr ⟨ex2_2 (by (simp only [inb, noThing_iff, noThing_niff, Bool.not_eq_true', Bool.not_eq_false', Bool.or_eq_true, Bool.or_eq_false_iff, decide_eq_true_eq, decide_eq_false_iff_not] <;> omega)) (by have h9 := h.2; (simp only [inb, noThing_iff, noThing_niff, Bool.not_eq_true', Bool.not_eq_false', Bool.or_eq_true, Bool.or_eq_false_iff, decide_eq_true_eq, decide_eq_false_iff_not] <;> omega)), h.1⟩) (Nat.le_of_ble_eq_true rfl) (Nat.le_of_ble_eq_true rfl) (fun g_2 => ?_)
  have g_2 : 1 ≤ (mo) ∧ (mo) ≤ 12 := g_2
  refine lv_aload_n hx hb dX1_feastMonth_8 rfl (lv_at hl 0 rfl) ?_
  refine va_get (D := (dC, dI)) (ci := 4) (v := .ref (q 4)) (C := RX1) (T := TX1) (N := 8) hx hb hts (fun w h => List.mem_cons_of_mem _ (gF_0_in h)) hown hM.1 hP 0 rfl rfl 3 (by decide) (hts _ (List.mem_cons_of_mem _ mw100)) (fun _ h9 => h9) rfl dX1_feastMonth_9 ?_
  refine lv_iload_n hx hb dX1_feastMonth_12 rfl (lv_at hl 1 rfl) ?_
  refine kz_iald (v := σ 4 p1) hx hb hM.1 hP 4 0 rfl rfl (by omega) (by decide) rfl dX1_feastMonth_13 ?_
  refine lv_iload_n hx hb dX1_feastMonth_14 rfl (lv_at hl 2 rfl) ?_
  refine lv_iconst (v := iZ 1) hx hb dX1_feastMonth_15 rfl ?_
  refine kc0 (fun _ q => q) (va_runS (As := [.int (iZ mo), .int (iZ (bZ true))]) (rest := [.int (iZ (σ 4 p1))]) ⟨hx, hb, hml, hown, hts⟩ (c_X0_monthLength l _ (mo) true (by first | omega | (have := mlen_rng true mo; first | omega | (unfold mn2; (try split) <;> omega)))) (va_cwS 2 hts (kg_S mw541 mw150 mw51 rfl mw151) rfl rfl rfl hdS_X0_monthLength ⟨Nat.le_of_ble_eq_true rfl, Nat.le_of_ble_eq_true rfl⟩) ⟨fun a U g mk q => q, fun U hU hW => ⟨rfl, hU⟩⟩ rfl rfl hl.1 rfl (lv_room (Nat.le_of_ble_eq_true rfl)) dX1_feastMonth_16 ⟨Nat.le_of_ble_eq_true rfl, Nat.le_of_ble_eq_true rfl⟩) ?_
  refine va_mmin hx hb (by rw [hml]; exact hl.1.symm) hown (hts _ (List.mem_cons_of_mem _ mw807)) (hts _ (List.mem_cons_of_mem _ mw293)) (hts _ (List.mem_cons_of_mem _ mw52)) (hts _ (List.mem_cons_of_mem _ mw294)) (Nat.le_of_ble_eq_true rfl) (Nat.le_of_ble_eq_true rfl) (Nat.le_of_ble_eq_true rfl) (Nat.le_of_ble_eq_true rfl) dX1_feastMonth_19 ?_
  rw [kmin_row (by first | omega | (have := mlen_rng true mo; first | omega | (unfold mn2; (try split) <;> omega))) (by first | omega | (have := mlen_rng true mo; first | omega | (unfold mn2; (try split) <;> omega)))]
  refine lv_istore (lv' := [(4, .int (iZ (mn2 (σ 4 p1) (mlen true ((mo)))))), (0, .ref (q 0)), (1, .int (iZ ((p1 : Nat) : Int))), (2, .int (iZ mo)), (3, .int (iZ (bZ (bb))))]) hx hb dX1_feastMonth_22 hl (by decide) rfl (fun ls hl => ?_)
  refine lv_aload_n hx hb dX1_feastMonth_24 rfl (lv_at hl 1 rfl) ?_
  refine lv_iload_n hx hb dX1_feastMonth_25 rfl (lv_at hl 2 rfl) ?_
  refine lv_iload_n hx hb dX1_feastMonth_26 rfl (lv_at hl 3 rfl) ?_
  refine lv_iload hx hb dX1_feastMonth_27 (lv_at hl 0 rfl) ?_
  refine kc2 (va_runV (As := [.int (iZ ((p1 : Nat) : Int)), .int (iZ mo), .int (iZ (mn2 (σ 4 p1) (mlen true ((mo)))))]) (rest := []) ⟨hx, hb, hml, hown, hts⟩ (c_X1_putFeast l dC dI dA k q (σ) _ ⟨tb, tn, tm, htn, hfit, htm, hP⟩ (hOK) hq p1 (mo) ((mn2 (σ 4 p1) (mlen true ((mo))))) hp1 (by first | omega | (have := mlen_rng true mo; first | omega | (unfold mn2; (try split) <;> omega))) (by first | omega | (have := mlen_rng true mo; first | omega | (unfold mn2; (try split) <;> omega)))) (cwV 3 hts (kg_V mw790 mw791 mw23 mw42 rfl mw792) rfl rfl rfl hdV_X1_putFeast ⟨Nat.le_of_ble_eq_true rfl, Nat.le_of_ble_eq_true rfl⟩) ⟨fun a U g mk q => ⟨q.1, q.2.1, kM_call q.2.2⟩, va_recv hM.1 hP (ci := 4) (q0 := 0) rfl rfl, fun U hU hW => ⟨rfl, hU, kM_kept hM hS (kA_N hq hM.2.1.1) hU hW⟩⟩ rfl rfl hl.1 rfl (lv_room (Nat.le_of_ble_eq_true rfl)) dX1_feastMonth_29 ⟨Nat.le_of_ble_eq_true rfl, Nat.le_of_ble_eq_true rfl⟩) hS (fun a _ h => kA_up hS.1 a h) (fun a h => kA_up hS.1 a h) (fun H locs hG hz9 hk9 hS => ?_)
  obtain ⟨tb, tn, tm, htn, hfit, htm, hP⟩ := hG
  refine lv_pop hx hb dX1_feastMonth_32 rfl ?_
  refine lv_iload hx hb dX1_feastMonth_33 (lv_at hl 0 rfl) ?_
  refine W.widen (k := 2) (n := 12) (Nat.le_of_ble_eq_true rfl) (Nat.le_of_ble_eq_true rfl) ?_
  refine vx_ret ?_
  exact W.iret (v := iZ (mn2 (σ 4 p1) (mlen true ((mo))))) hx hb hr (fun t ht hW => ⟨⟨⟨congrArg (fun z : Int => Outcome.returned (some (Value.int (iZ z)))) (show (mn2 (σ 4 p1) (mlen true ((mo)))) = (mn2 (σ 4 p1) (mlen true mo)) from by rfl), gX_cast ⟨tb, tn, tm, htn, hfit, htm, by rw [ht]; exact hP⟩ (show (putFs σ p1 ((mo)) (((mn2 (σ 4 p1) (mlen true ((mo))))))) = (putFs σ p1 mo (mn2 (σ 4 p1) (mlen true mo))) from by rfl)⟩, hS.F ht⟩, ex2_0 (by (simp only [inb, noThing_iff, noThing_niff, Bool.not_eq_true', Bool.not_eq_false', Bool.or_eq_true, Bool.or_eq_false_iff, decide_eq_true_eq, decide_eq_false_iff_not] <;> omega)) (by (simp only [inb, noThing_iff, noThing_niff, Bool.not_eq_true', Bool.not_eq_false', Bool.or_eq_true, Bool.or_eq_false_iff, decide_eq_true_eq, decide_eq_false_iff_not] <;> omega))⟩) hS.2.2 dX1_feastMonth_35

abbrev ww_X1_feastDay : List Cond := .code yX1_feastDay cX1_feastDay 5 (some .int) :: gT
set_option maxHeartbeats 4000000 in
set_option maxRecDepth 100000 in
theorem c_X1_feastDay (l : Launch) (hst : l.stackTraces = false) (dC : Nat → ClassId) (dI : Nat → Nat → Nat) (dA : Nat → ClassId) (k : Nat → Nat) (q : Nat → Nat) (σ : Nat → Nat → Int) (H0 : Heap) (hG : gX dC dI dA q σ H0) (hOK : kOK σ) (hq : kQI q k) (z1 : Int) (dd : Int) (bb : Bool) (rz1 : -2147483648 ≤ z1 ∧ z1 < 2147483648) (rdd : -2147483648 ≤ dd ∧ dd < 2147483648) : vx_Met l yX1_feastDay ww_X1_feastDay ({ frames := 10, cells := 2, slots := 12, locals := 342 }) (va_Pc [.ref (q 0), .int (iZ z1), .int (iZ dd), .int (iZ (bZ (bb)))] (fun U => U.heap = H0 ∧ kM dC dI dA k U)) (kQ2x (ex2 (!inb z1 0 3) (!inb dd 1 31) = 0) (some (.int (iZ (if putFr (σ 3 (z1.toNat)) dd = true then σ 4 (z1.toNat) else -9)))) (gX dC dI dA q (putFs σ (z1.toNat) (σ 3 (z1.toNat)) dd)) (kA q H0.size)) (kXC (fun E => (ex2 (!inb z1 0 3) (!inb dd 1 31) = 1 ∧ E = "java/lang/IndexOutOfBoundsException") ∨ (ex2 (!inb z1 0 3) (!inb dd 1 31) = 2 ∧ E = "java/lang/IllegalArgumentException"))) 2 12 (kA q H0.size) := by
  refine vx_ofW (cc := cX1_feastDay) (maxL := 5) (ret := (some .int)) (by decide) rfl ?_
  intro p e s m args below meth c s₁ B hml hno hv
  obtain ⟨rfl, hH, hM⟩ := hv
  subst hH
  have hB := hM.2.1
  obtain ⟨tb, tn, tm, htn, hfit, htm, hP⟩ := hG
  have hS : va_S (kA q s.heap.size) s.heap s.heap [] := va_S.rf
  have hx := B.exec
  have hb := B.bytes
  have hr := B.returns
  have hts := atoms_spec (ws := ww_X1_feastDay) B.pre
  have hown : s.vm.findClass RX1 = some m.cls := findClass_of_methodNamed B.named
  have hlocks := B.notSynchronized
  have hl := lv_entry ([.ref (q 0), .int (iZ z1), .int (iZ dd), .int (iZ (bZ (bb)))]) (n := 5) (Nat.le_of_ble_eq_true rfl)
  rw [lg_entry_eq]
  generalize (lg_sl ([.ref (q 0), .int (iZ z1), .int (iZ dd), .int (iZ (bZ (bb)))]) ++ List.replicate (5 - (lg_sl ([.ref (q 0), .int (iZ z1), .int (iZ dd), .int (iZ (bZ (bb)))])).length) Slot.unset).toArray = ls at hl ⊢
  have hl : lv_has ls 5 [(0, .ref (q 0)), (1, .int (iZ z1)), (2, .int (iZ dd)), (3, .int (iZ (bZ (bb))))] := hl
  refine lv_iload_n hx hb dX1_feastDay_0 rfl (lv_at hl 1 rfl) ?_
  refine kcxo (fun _ q => q) (vx_runS (As := [.int (iZ z1)]) (rest := []) ⟨hx, hb, hml, hown, hts⟩ (c_X1_needPlace l hst k _ (z1) (by omega)) (va_cwS 1 hts (kg_S mw224 mw225 mw42 rfl mw226) rfl rfl rfl hdS_X1_needPlace ⟨Nat.le_of_ble_eq_true rfl, Nat.le_of_ble_eq_true rfl⟩) ⟨fun a U g mk q => ⟨q.1, q.2.1, kB_call q.2.2⟩, fun U hU hW => ⟨rfl, hU, kB_same hB hU hW⟩⟩ rfl rfl hl.1 rfl (lv_room (Nat.le_of_ble_eq_true rfl)) dX1_feastDay_1 ⟨Nat.le_of_ble_eq_true rfl, Nat.le_of_ble_eq_true rfl⟩) hno hlocks (fun E h => Or.inl ⟨ex2_1 (by have h9 := h.2; (simp only [inb, noThing_iff, noThing_niff, Bool.not_eq_true', Bool.not_eq_false', Bool.or_eq_true, Bool.or_eq_false_iff, decide_eq_true_eq, decide_eq_false_iff_not] <;> omega)), h.1⟩) (Nat.le_of_ble_eq_true rfl) (Nat.le_of_ble_eq_true rfl) (fun g_1 => ?_)
  have g_1 : 0 ≤ (z1) ∧ (z1) ≤ 3 := g_1
  obtain ⟨p1, hp1, rfl⟩ : ∃ p1 : Nat, p1 < 4 ∧ z1 = (p1 : Int) := ⟨z1.toNat, by omega, by omega⟩
  have o_p1 := kOKr hOK hp1
  refine lv_iload_n hx hb dX1_feastDay_4 rfl (lv_at hl 2 rfl) ?_
  refine kcxo (fun _ q => q) (vx_runS (As := [.int (iZ dd)]) (rest := []) ⟨hx, hb, hml, hown, hts⟩ (c_X1_needDayOfMonth l hst k _ (dd) (by omega)) (va_cwS 1 hts (kg_S mw787 mw788 mw42 rfl mw789) rfl rfl rfl hdS_X1_needDayOfMonth ⟨Nat.le_of_ble_eq_true rfl, Nat.le_of_ble_eq_true rfl⟩) ⟨fun a U g mk q => ⟨q.1, q.2.1, kB_call q.2.2⟩, fun U hU hW => ⟨rfl, hU, kB_same hB hU hW⟩⟩ rfl rfl hl.1 rfl (lv_room (Nat.le_of_ble_eq_true rfl)) dX1_feastDay_5 ⟨Nat.le_of_ble_eq_true rfl, Nat.le_of_ble_eq_true rfl⟩) hno hlocks (fun E h => Or.inr ⟨ex2_2 (by (simp only [inb, noThing_iff, noThing_niff, Bool.not_eq_true', Bool.not_eq_false', Bool.or_eq_true, Bool.or_eq_false_iff, decide_eq_true_eq, decide_eq_false_iff_not] <;> omega)) (by have h9 := h.2; (simp only [inb, noThing_iff, noThing_niff, Bool.not_eq_true', Bool.not_eq_false', Bool.or_eq_true, Bool.or_eq_false_iff, decide_eq_true_eq, decide_eq_false_iff_not] <;> omega)), h.1⟩) (Nat.le_of_ble_eq_true rfl) (Nat.le_of_ble_eq_true rfl) (fun g_2 => ?_)
  have g_2 : 1 ≤ (dd) ∧ (dd) ≤ 31 := g_2
  refine lv_aload_n hx hb dX1_feastDay_8 rfl (lv_at hl 0 rfl) ?_
  refine va_get (D := (dC, dI)) (ci := 4) (v := .ref (q 4)) (C := RX1) (T := TX1) (N := 8) hx hb hts (fun w h => List.mem_cons_of_mem _ (gF_0_in h)) hown hM.1 hP 0 rfl rfl 3 (by decide) (hts _ (List.mem_cons_of_mem _ mw100)) (fun _ h9 => h9) rfl dX1_feastDay_9 ?_
  refine lv_iload_n hx hb dX1_feastDay_12 rfl (lv_at hl 1 rfl) ?_
  refine kz_iald (v := σ 4 p1) hx hb hM.1 hP 4 0 rfl rfl (by omega) (by decide) rfl dX1_feastDay_13 ?_
  refine lv_istore (lv' := [(4, .int (iZ (σ 4 p1))), (0, .ref (q 0)), (1, .int (iZ ((p1 : Nat) : Int))), (2, .int (iZ dd)), (3, .int (iZ (bZ (bb))))]) hx hb dX1_feastDay_14 hl (by decide) rfl (fun ls hl => ?_)
  refine lv_aload_n hx hb dX1_feastDay_16 rfl (lv_at hl 1 rfl) ?_
  refine lv_iload_n hx hb dX1_feastDay_17 rfl (lv_at hl 2 rfl) ?_
  refine lv_aload_n hx hb dX1_feastDay_18 rfl (lv_at hl 1 rfl) ?_
  refine va_get (D := (dC, dI)) (ci := 4) (v := .ref (q 3)) (C := RX1) (T := TX1) (N := 8) hx hb hts (fun w h => List.mem_cons_of_mem _ (gF_0_in h)) hown hM.1 hP 0 rfl rfl 2 (by decide) (hts _ (List.mem_cons_of_mem _ mw99)) (fun _ h9 => h9) rfl dX1_feastDay_19 ?_
  refine lv_iload_n hx hb dX1_feastDay_22 rfl (lv_at hl 2 rfl) ?_
  refine kz_iald (v := σ 3 p1) hx hb hM.1 hP 3 0 rfl rfl (by omega) (by decide) rfl dX1_feastDay_23 ?_
  refine lv_iload_n hx hb dX1_feastDay_24 rfl (lv_at hl 3 rfl) ?_
  refine kc2 (va_runV (As := [.int (iZ ((p1 : Nat) : Int)), .int (iZ (σ 3 p1)), .int (iZ dd)]) (rest := []) ⟨hx, hb, hml, hown, hts⟩ (c_X1_putFeast l dC dI dA k q (σ) _ ⟨tb, tn, tm, htn, hfit, htm, hP⟩ (hOK) hq p1 ((σ 3 p1)) (dd) hp1 (by omega) (by omega)) (cwV 3 hts (kg_V mw790 mw791 mw23 mw42 rfl mw792) rfl rfl rfl hdV_X1_putFeast ⟨Nat.le_of_ble_eq_true rfl, Nat.le_of_ble_eq_true rfl⟩) ⟨fun a U g mk q => ⟨q.1, q.2.1, kM_call q.2.2⟩, va_recv hM.1 hP (ci := 4) (q0 := 0) rfl rfl, fun U hU hW => ⟨rfl, hU, kM_kept hM hS (kA_N hq hM.2.1.1) hU hW⟩⟩ rfl rfl hl.1 rfl (lv_room (Nat.le_of_ble_eq_true rfl)) dX1_feastDay_25 ⟨Nat.le_of_ble_eq_true rfl, Nat.le_of_ble_eq_true rfl⟩) hS (fun a _ h => kA_up hS.1 a h) (fun a h => kA_up hS.1 a h) (fun H locs hG hz9 hk9 hS => ?_)
  obtain ⟨tb, tn, tm, htn, hfit, htm, hP⟩ := hG
  refine kz_ifb_eq (tgt := 36) hx hb  dX1_feastDay_28 (by decide) (fun c_3 => ?_) (fun c_3 => ?_)
  · refine lv_bipush (v := iZ (-9)) hx hb dX1_feastDay_36 rfl ?_
    refine W.widen (k := 2) (n := 12) (Nat.le_of_ble_eq_true rfl) (Nat.le_of_ble_eq_true rfl) ?_
    refine vx_ret ?_
    exact W.iret (v := iZ ((-9))) hx hb hr (fun t ht hW => ⟨⟨⟨congrArg (fun z : Int => Outcome.returned (some (Value.int (iZ z)))) (show ((-9)) = (if putFr (σ 3 p1) dd = true then σ 4 p1 else -9) from by rw [if_neg (by simp [*])]), gX_cast ⟨tb, tn, tm, htn, hfit, htm, by rw [ht]; exact hP⟩ (show (putFs σ p1 (((σ 3 p1))) ((dd))) = (putFs σ p1 (σ 3 p1) dd) from by rfl)⟩, hS.F ht⟩, ex2_0 (by (simp only [inb, noThing_iff, noThing_niff, Bool.not_eq_true', Bool.not_eq_false', Bool.or_eq_true, Bool.or_eq_false_iff, decide_eq_true_eq, decide_eq_false_iff_not] <;> omega)) (by (simp only [inb, noThing_iff, noThing_niff, Bool.not_eq_true', Bool.not_eq_false', Bool.or_eq_true, Bool.or_eq_false_iff, decide_eq_true_eq, decide_eq_false_iff_not] <;> omega))⟩) hS.2.2 dX1_feastDay_38
  · refine lv_iload hx hb dX1_feastDay_31 (lv_at hl 0 rfl) ?_
    refine lv_goto (tgt := 38) hx hb dX1_feastDay_33 (by decide) ?_
    refine W.widen (k := 2) (n := 12) (Nat.le_of_ble_eq_true rfl) (Nat.le_of_ble_eq_true rfl) ?_
    refine vx_ret ?_
    exact W.iret (v := iZ (σ 4 p1)) hx hb hr (fun t ht hW => ⟨⟨⟨congrArg (fun z : Int => Outcome.returned (some (Value.int (iZ z)))) (show (σ 4 p1) = (if putFr (σ 3 p1) dd = true then σ 4 p1 else -9) from by rw [if_pos (by assumption)]), gX_cast ⟨tb, tn, tm, htn, hfit, htm, by rw [ht]; exact hP⟩ (show (putFs σ p1 (((σ 3 p1))) ((dd))) = (putFs σ p1 (σ 3 p1) dd) from by rfl)⟩, hS.F ht⟩, ex2_0 (by (simp only [inb, noThing_iff, noThing_niff, Bool.not_eq_true', Bool.not_eq_false', Bool.or_eq_true, Bool.or_eq_false_iff, decide_eq_true_eq, decide_eq_false_iff_not] <;> omega)) (by (simp only [inb, noThing_iff, noThing_niff, Bool.not_eq_true', Bool.not_eq_false', Bool.or_eq_true, Bool.or_eq_false_iff, decide_eq_true_eq, decide_eq_false_iff_not] <;> omega))⟩) hS.2.2 dX1_feastDay_38

theorem putFs_k {σ : Nat → Nat → Int} {j i k : Nat} {m d : Int} (h3 : k ≠ 3) (h4 : k ≠ 4) : putFs σ j m d k i = σ k i := by
  unfold putFs
  split
  · rw [sU_n (fun z => h4 z.1), sU_n (fun z => h3 z.1)]
  · rfl
abbrev ww_X1_feastOf : List Cond := .code yX1_feastOf cX1_feastOf 4 (some .int) :: gT
set_option maxHeartbeats 4000000 in
set_option maxRecDepth 100000 in
theorem c_X1_feastOf (l : Launch) (hst : l.stackTraces = false) (dC : Nat → ClassId) (dI : Nat → Nat → Nat) (dA : Nat → ClassId) (k : Nat → Nat) (q : Nat → Nat) (σ : Nat → Nat → Int) (H0 : Heap) (hG : gX dC dI dA q σ H0) (hOK : kOK σ) (hq : kQI q k) (z1 : Int) (z2 : Int) (rz1 : -2147483648 ≤ z1 ∧ z1 < 2147483648) (rz2 : -2147483648 ≤ z2 ∧ z2 < 2147483648) : vx_Met l yX1_feastOf ww_X1_feastOf ({ frames := 9, cells := 2, slots := 12, locals := 320 }) (va_Pc [.ref (q 0), .int (iZ z1), .int (iZ z2)] (fun U => U.heap = H0 ∧ kM dC dI dA k U)) (kQ2x (ex2 (!inb z1 0 3 || !inb z2 0 3) (false) = 0) (some (.int (iZ (bZ (decide (σ 6 (z2.toNat) ≠ 2 ∨ σ 7 (z2.toNat) ≤ 28)))))) (gX dC dI dA q (putFs σ (z1.toNat) (σ 6 (z2.toNat)) (σ 7 (z2.toNat)))) (kA q H0.size)) (kXC (fun E => (ex2 (!inb z1 0 3 || !inb z2 0 3) (false) = 1 ∧ E = "java/lang/IndexOutOfBoundsException") ∨ (ex2 (!inb z1 0 3 || !inb z2 0 3) (false) = 2 ∧ E = "java/lang/IllegalArgumentException"))) 2 12 (kA q H0.size) := by
  refine vx_ofW (cc := cX1_feastOf) (maxL := 4) (ret := (some .int)) (by decide) rfl ?_
  intro p e s m args below meth c s₁ B hml hno hv
  obtain ⟨rfl, hH, hM⟩ := hv
  subst hH
  have hB := hM.2.1
  obtain ⟨tb, tn, tm, htn, hfit, htm, hP⟩ := hG
  have hS : va_S (kA q s.heap.size) s.heap s.heap [] := va_S.rf
  have hx := B.exec
  have hb := B.bytes
  have hr := B.returns
  have hts := atoms_spec (ws := ww_X1_feastOf) B.pre
  have hown : s.vm.findClass RX1 = some m.cls := findClass_of_methodNamed B.named
  have hlocks := B.notSynchronized
  have hl := lv_entry ([.ref (q 0), .int (iZ z1), .int (iZ z2)]) (n := 4) (Nat.le_of_ble_eq_true rfl)
  rw [lg_entry_eq]
  generalize (lg_sl ([.ref (q 0), .int (iZ z1), .int (iZ z2)]) ++ List.replicate (4 - (lg_sl ([.ref (q 0), .int (iZ z1), .int (iZ z2)])).length) Slot.unset).toArray = ls at hl ⊢
  have hl : lv_has ls 4 [(0, .ref (q 0)), (1, .int (iZ z1)), (2, .int (iZ z2))] := hl
  refine lv_iload_n hx hb dX1_feastOf_0 rfl (lv_at hl 1 rfl) ?_
  refine kcxo (fun _ q => q) (vx_runS (As := [.int (iZ z1)]) (rest := []) ⟨hx, hb, hml, hown, hts⟩ (c_X1_needPlace l hst k _ (z1) (by first | omega | (have e1 := monOf_cnt (y := σ 5 p2) (m := σ 6 p2) (by omega); first | omega | (rw [putFs_k (by decide) (by decide)]; omega)))) (va_cwS 1 hts (kg_S mw224 mw225 mw42 rfl mw226) rfl rfl rfl hdS_X1_needPlace ⟨Nat.le_of_ble_eq_true rfl, Nat.le_of_ble_eq_true rfl⟩) ⟨fun a U g mk q => ⟨q.1, q.2.1, kB_call q.2.2⟩, fun U hU hW => ⟨rfl, hU, kB_same hB hU hW⟩⟩ rfl rfl hl.1 rfl (lv_room (Nat.le_of_ble_eq_true rfl)) dX1_feastOf_1 ⟨Nat.le_of_ble_eq_true rfl, Nat.le_of_ble_eq_true rfl⟩) hno hlocks (fun E h => Or.inl ⟨ex2_1 (by have h9 := h.2; (simp only [inb, noThing_iff, noThing_niff, Bool.not_eq_true', Bool.not_eq_false', Bool.or_eq_true, Bool.or_eq_false_iff, decide_eq_true_eq, decide_eq_false_iff_not] <;> omega)), h.1⟩) (Nat.le_of_ble_eq_true rfl) (Nat.le_of_ble_eq_true rfl) (fun g_1 => ?_)
  have g_1 : 0 ≤ (z1) ∧ (z1) ≤ 3 := g_1
  obtain ⟨p1, hp1, rfl⟩ : ∃ p1 : Nat, p1 < 4 ∧ z1 = (p1 : Int) := ⟨z1.toNat, by omega, by omega⟩
  have o_p1 := kOKr hOK hp1
  refine lv_iload_n hx hb dX1_feastOf_4 rfl (lv_at hl 2 rfl) ?_
  refine kcxo (fun _ q => q) (vx_runS (As := [.int (iZ z2)]) (rest := []) ⟨hx, hb, hml, hown, hts⟩ (c_X1_needPlace l hst k _ (z2) (by first | omega | (have e1 := monOf_cnt (y := σ 5 p2) (m := σ 6 p2) (by omega); first | omega | (rw [putFs_k (by decide) (by decide)]; omega)))) (va_cwS 1 hts (kg_S mw224 mw225 mw42 rfl mw226) rfl rfl rfl hdS_X1_needPlace ⟨Nat.le_of_ble_eq_true rfl, Nat.le_of_ble_eq_true rfl⟩) ⟨fun a U g mk q => ⟨q.1, q.2.1, kB_call q.2.2⟩, fun U hU hW => ⟨rfl, hU, kB_same hB hU hW⟩⟩ rfl rfl hl.1 rfl (lv_room (Nat.le_of_ble_eq_true rfl)) dX1_feastOf_5 ⟨Nat.le_of_ble_eq_true rfl, Nat.le_of_ble_eq_true rfl⟩) hno hlocks (fun E h => Or.inl ⟨ex2_1 (by have h9 := h.2; (simp only [inb, noThing_iff, noThing_niff, Bool.not_eq_true', Bool.not_eq_false', Bool.or_eq_true, Bool.or_eq_false_iff, decide_eq_true_eq, decide_eq_false_iff_not] <;> omega)), h.1⟩) (Nat.le_of_ble_eq_true rfl) (Nat.le_of_ble_eq_true rfl) (fun g_2 => ?_)
  have g_2 : 0 ≤ (z2) ∧ (z2) ≤ 3 := g_2
  obtain ⟨p2, hp2, rfl⟩ : ∃ p2 : Nat, p2 < 4 ∧ z2 = (p2 : Int) := ⟨z2.toNat, by omega, by omega⟩
  have o_p2 := kOKr hOK hp2
  refine lv_aload_n hx hb dX1_feastOf_8 rfl (lv_at hl 0 rfl) ?_
  refine va_get (D := (dC, dI)) (ci := 4) (v := .ref (q 5)) (C := RX1) (T := TX1) (N := 8) hx hb hts (fun w h => List.mem_cons_of_mem _ (gF_0_in h)) hown hM.1 hP 0 rfl rfl 4 (by decide) (hts _ (List.mem_cons_of_mem _ mw101)) (fun _ h9 => h9) rfl dX1_feastOf_9 ?_
  refine lv_iload_n hx hb dX1_feastOf_12 rfl (lv_at hl 2 rfl) ?_
  refine kz_lald (v := cnt (σ 5 p2) (σ 6 p2)) hx hb hM.1 hP 5 1 rfl rfl (by omega) (by decide) rfl dX1_feastOf_13 ?_
  refine kc0 (fun _ q => q) (va_runS (As := [.long (lZ (cnt (σ 5 p2) (σ 6 p2)))]) (rest := []) ⟨hx, hb, hml, hown, hts⟩ (c_X0_monthOf l _ ((cnt (σ 5 p2) (σ 6 p2))) (by first | omega | (have e1 := monOf_cnt (y := σ 5 p2) (m := σ 6 p2) (by omega); first | omega | (rw [putFs_k (by decide) (by decide)]; omega)))) (va_cwS 1 hts (kg_S mw153 mw136 mw51 rfl mw137) rfl rfl rfl hdS_X0_monthOf ⟨Nat.le_of_ble_eq_true rfl, Nat.le_of_ble_eq_true rfl⟩) ⟨fun a U g mk q => q, fun U hU hW => ⟨rfl, hU⟩⟩ rfl rfl hl.1 rfl (lv_room (Nat.le_of_ble_eq_true rfl)) dX1_feastOf_14 ⟨Nat.le_of_ble_eq_true rfl, Nat.le_of_ble_eq_true rfl⟩) ?_
  refine lv_istore_n (lv' := [(3, .int (iZ (monOf (((cnt (σ 5 p2) (σ 6 p2))))))), (0, .ref (q 0)), (1, .int (iZ ((p1 : Nat) : Int))), (2, .int (iZ ((p2 : Nat) : Int)))]) hx hb dX1_feastOf_17 rfl hl (by decide) rfl (fun ls hl => ?_)
  refine lv_aload_n hx hb dX1_feastOf_18 rfl (lv_at hl 1 rfl) ?_
  refine lv_iload_n hx hb dX1_feastOf_19 rfl (lv_at hl 2 rfl) ?_
  refine lv_iload_n hx hb dX1_feastOf_20 rfl (lv_at hl 0 rfl) ?_
  refine lv_aload_n hx hb dX1_feastOf_21 rfl (lv_at hl 1 rfl) ?_
  refine va_get (D := (dC, dI)) (ci := 4) (v := .ref (q 6)) (C := RX1) (T := TX1) (N := 8) hx hb hts (fun w h => List.mem_cons_of_mem _ (gF_0_in h)) hown hM.1 hP 0 rfl rfl 5 (by decide) (hts _ (List.mem_cons_of_mem _ mw102)) (fun _ h9 => h9) rfl dX1_feastOf_22 ?_
  refine lv_iload_n hx hb dX1_feastOf_25 rfl (lv_at hl 3 rfl) ?_
  refine kz_iald (v := σ 7 p2) hx hb hM.1 hP 6 0 rfl rfl (by omega) (by decide) rfl dX1_feastOf_26 ?_
  refine kc2 (va_runV (As := [.int (iZ ((p1 : Nat) : Int)), .int (iZ (monOf (((cnt (σ 5 p2) (σ 6 p2)))))), .int (iZ (σ 7 p2))]) (rest := []) ⟨hx, hb, hml, hown, hts⟩ (c_X1_putFeast l dC dI dA k q (σ) _ ⟨tb, tn, tm, htn, hfit, htm, hP⟩ (hOK) hq p1 ((monOf (((cnt (σ 5 p2) (σ 6 p2)))))) ((σ 7 p2)) hp1 (by first | omega | (have e1 := monOf_cnt (y := σ 5 p2) (m := σ 6 p2) (by omega); first | omega | (rw [putFs_k (by decide) (by decide)]; omega))) (by first | omega | (have e1 := monOf_cnt (y := σ 5 p2) (m := σ 6 p2) (by omega); first | omega | (rw [putFs_k (by decide) (by decide)]; omega)))) (cwV 3 hts (kg_V mw790 mw791 mw23 mw42 rfl mw792) rfl rfl rfl hdV_X1_putFeast ⟨Nat.le_of_ble_eq_true rfl, Nat.le_of_ble_eq_true rfl⟩) ⟨fun a U g mk q => ⟨q.1, q.2.1, kM_call q.2.2⟩, va_recv hM.1 hP (ci := 4) (q0 := 0) rfl rfl, fun U hU hW => ⟨rfl, hU, kM_kept hM hS (kA_N hq hM.2.1.1) hU hW⟩⟩ rfl rfl hl.1 rfl (lv_room (Nat.le_of_ble_eq_true rfl)) dX1_feastOf_27 ⟨Nat.le_of_ble_eq_true rfl, Nat.le_of_ble_eq_true rfl⟩) hS (fun a _ h => kA_up hS.1 a h) (fun a h => kA_up hS.1 a h) (fun H locs hG hz9 hk9 hS => ?_)
  obtain ⟨tb, tn, tm, htn, hfit, htm, hP⟩ := hG
  refine lv_pop hx hb dX1_feastOf_30 rfl ?_
  refine lv_iload_n hx hb dX1_feastOf_31 rfl (lv_at hl 0 rfl) ?_
  refine lv_aload_n hx hb dX1_feastOf_32 rfl (lv_at hl 1 rfl) ?_
  refine va_get (D := (dC, dI)) (ci := 4) (v := .ref (q 6)) (C := RX1) (T := TX1) (N := 8) hx hb hts (fun w h => List.mem_cons_of_mem _ (gF_0_in h)) hown hM.1 hP 0 rfl rfl 5 (by decide) (hts _ (List.mem_cons_of_mem _ mw102)) (fun _ h9 => h9) rfl dX1_feastOf_33 ?_
  refine lv_iload_n hx hb dX1_feastOf_36 rfl (lv_at hl 3 rfl) ?_
  refine kz_iald (v := (putFs σ p1 (((monOf (((cnt (σ 5 p2) (σ 6 p2))))))) (((σ 7 p2)))) 7 p2) hx hb hM.1 hP 6 0 rfl rfl (by omega) (by decide) rfl dX1_feastOf_37 ?_
  refine kc0 (fun _ q => q) (va_runS (As := [.int (iZ (monOf (((cnt (σ 5 p2) (σ 6 p2)))))), .int (iZ ((putFs σ p1 (((monOf (((cnt (σ 5 p2) (σ 6 p2))))))) (((σ 7 p2)))) 7 p2))]) (rest := []) ⟨hx, hb, hml, hown, hts⟩ (c_X0_isInEachYear l _ ((monOf (((cnt (σ 5 p2) (σ 6 p2)))))) (((putFs σ p1 (((monOf (((cnt (σ 5 p2) (σ 6 p2))))))) (((σ 7 p2)))) 7 p2)) (by first | omega | (have e1 := monOf_cnt (y := σ 5 p2) (m := σ 6 p2) (by omega); first | omega | (rw [putFs_k (by decide) (by decide)]; omega))) (by first | omega | (have e1 := monOf_cnt (y := σ 5 p2) (m := σ 6 p2) (by omega); first | omega | (rw [putFs_k (by decide) (by decide)]; omega)))) (va_cwS 2 hts (kg_S mw205 mw206 mw51 rfl mw207) rfl rfl rfl hdS_X0_isInEachYear ⟨Nat.le_of_ble_eq_true rfl, Nat.le_of_ble_eq_true rfl⟩) ⟨fun a U g mk q => q, fun U hU hW => ⟨rfl, hU⟩⟩ rfl rfl hl.1 rfl (lv_room (Nat.le_of_ble_eq_true rfl)) dX1_feastOf_38 ⟨Nat.le_of_ble_eq_true rfl, Nat.le_of_ble_eq_true rfl⟩) ?_
  refine kc0 (fun _ q => q) (va_runS (As := [.int (iZ (bZ (decide ((((monOf (((cnt (σ 5 p2) (σ 6 p2))))))) ≠ 2 ∨ ((((putFs σ p1 (((monOf (((cnt (σ 5 p2) (σ 6 p2))))))) (((σ 7 p2)))) 7 p2))) ≤ 28))))]) (rest := []) ⟨hx, hb, hml, hown, hts⟩ (c_X1_oneIf l _ (decide ((((monOf (((cnt (σ 5 p2) (σ 6 p2))))))) ≠ 2 ∨ ((((putFs σ p1 (((monOf (((cnt (σ 5 p2) (σ 6 p2))))))) (((σ 7 p2)))) 7 p2))) ≤ 28))) (va_cwS 1 hts (kg_S mw176 mw177 mw42 rfl mw178) rfl rfl rfl hdS_X1_oneIf ⟨Nat.le_of_ble_eq_true rfl, Nat.le_of_ble_eq_true rfl⟩) ⟨fun a U g mk q => q, fun U hU hW => ⟨rfl, hU⟩⟩ rfl rfl hl.1 rfl (lv_room (Nat.le_of_ble_eq_true rfl)) dX1_feastOf_41 ⟨Nat.le_of_ble_eq_true rfl, Nat.le_of_ble_eq_true rfl⟩) ?_
  refine W.widen (k := 2) (n := 12) (Nat.le_of_ble_eq_true rfl) (Nat.le_of_ble_eq_true rfl) ?_
  refine vx_ret ?_
  exact W.iret (v := iZ (bZ ((decide ((((monOf (((cnt (σ 5 p2) (σ 6 p2))))))) ≠ 2 ∨ ((((putFs σ p1 (((monOf (((cnt (σ 5 p2) (σ 6 p2))))))) (((σ 7 p2)))) 7 p2))) ≤ 28))))) hx hb hr (fun t ht hW => ⟨⟨⟨congrArg (fun z : Int => Outcome.returned (some (Value.int (iZ z)))) (show (bZ ((decide ((((monOf (((cnt (σ 5 p2) (σ 6 p2))))))) ≠ 2 ∨ ((((putFs σ p1 (((monOf (((cnt (σ 5 p2) (σ 6 p2))))))) (((σ 7 p2)))) 7 p2))) ≤ 28)))) = (bZ (decide (σ 6 p2 ≠ 2 ∨ σ 7 p2 ≤ 28))) from by have e1 := monOf_cnt (y := σ 5 p2) (m := σ 6 p2) (by omega); rw [putFs_k (by decide) (by decide), e1]), gX_cast ⟨tb, tn, tm, htn, hfit, htm, by rw [ht]; exact hP⟩ (show (putFs σ p1 (((monOf (((cnt (σ 5 p2) (σ 6 p2))))))) (((σ 7 p2)))) = (putFs σ p1 (σ 6 p2) (σ 7 p2)) from by rw [monOf_cnt (by omega)])⟩, hS.F ht⟩, ex2_0 (by (simp only [inb, noThing_iff, noThing_niff, Bool.not_eq_true', Bool.not_eq_false', Bool.or_eq_true, Bool.or_eq_false_iff, decide_eq_true_eq, decide_eq_false_iff_not] <;> omega)) (by rfl)⟩) hS.2.2 dX1_feastOf_44

abbrev ww_X1_feastLike : List Cond := .code yX1_feastLike cX1_feastLike 4 (some .int) :: gT
set_option maxHeartbeats 4000000 in
set_option maxRecDepth 100000 in
theorem c_X1_feastLike (l : Launch) (hst : l.stackTraces = false) (dC : Nat → ClassId) (dI : Nat → Nat → Nat) (dA : Nat → ClassId) (k : Nat → Nat) (q : Nat → Nat) (σ : Nat → Nat → Int) (H0 : Heap) (hG : gX dC dI dA q σ H0) (hOK : kOK σ) (hq : kQI q k) (z1 : Int) (z2 : Int) (rz1 : -2147483648 ≤ z1 ∧ z1 < 2147483648) (rz2 : -2147483648 ≤ z2 ∧ z2 < 2147483648) : vx_Met l yX1_feastLike ww_X1_feastLike ({ frames := 9, cells := 2, slots := 12, locals := 320 }) (va_Pc [.ref (q 0), .int (iZ z1), .int (iZ z2)] (fun U => U.heap = H0 ∧ kM dC dI dA k U)) (kQ2x (ex2 (!inb z1 0 3 || !inb z2 0 3) (false) = 0) (some (.int (iZ (bZ (decide (σ 3 (z1.toNat) = σ 3 (z2.toNat) ∧ σ 4 (z1.toNat) = σ 4 (z2.toNat))))))) (gX dC dI dA q (sU (sU σ 3 (z1.toNat) (σ 3 (z2.toNat))) 4 (z1.toNat) (σ 4 (z2.toNat)))) (kA q H0.size)) (kXC (fun E => (ex2 (!inb z1 0 3 || !inb z2 0 3) (false) = 1 ∧ E = "java/lang/IndexOutOfBoundsException") ∨ (ex2 (!inb z1 0 3 || !inb z2 0 3) (false) = 2 ∧ E = "java/lang/IllegalArgumentException"))) 2 12 (kA q H0.size) := by
  refine vx_ofW (cc := cX1_feastLike) (maxL := 4) (ret := (some .int)) (by decide) rfl ?_
  intro p e s m args below meth c s₁ B hml hno hv
  obtain ⟨rfl, hH, hM⟩ := hv
  subst hH
  have hB := hM.2.1
  obtain ⟨tb, tn, tm, htn, hfit, htm, hP⟩ := hG
  have hS : va_S (kA q s.heap.size) s.heap s.heap [] := va_S.rf
  have hx := B.exec
  have hb := B.bytes
  have hr := B.returns
  have hts := atoms_spec (ws := ww_X1_feastLike) B.pre
  have hown : s.vm.findClass RX1 = some m.cls := findClass_of_methodNamed B.named
  have hlocks := B.notSynchronized
  have hl := lv_entry ([.ref (q 0), .int (iZ z1), .int (iZ z2)]) (n := 4) (Nat.le_of_ble_eq_true rfl)
  rw [lg_entry_eq]
  generalize (lg_sl ([.ref (q 0), .int (iZ z1), .int (iZ z2)]) ++ List.replicate (4 - (lg_sl ([.ref (q 0), .int (iZ z1), .int (iZ z2)])).length) Slot.unset).toArray = ls at hl ⊢
  have hl : lv_has ls 4 [(0, .ref (q 0)), (1, .int (iZ z1)), (2, .int (iZ z2))] := hl
  refine lv_iload_n hx hb dX1_feastLike_0 rfl (lv_at hl 1 rfl) ?_
  refine kcxo (fun _ q => q) (vx_runS (As := [.int (iZ z1)]) (rest := []) ⟨hx, hb, hml, hown, hts⟩ (c_X1_needPlace l hst k _ (z1) (by omega)) (va_cwS 1 hts (kg_S mw224 mw225 mw42 rfl mw226) rfl rfl rfl hdS_X1_needPlace ⟨Nat.le_of_ble_eq_true rfl, Nat.le_of_ble_eq_true rfl⟩) ⟨fun a U g mk q => ⟨q.1, q.2.1, kB_call q.2.2⟩, fun U hU hW => ⟨rfl, hU, kB_same hB hU hW⟩⟩ rfl rfl hl.1 rfl (lv_room (Nat.le_of_ble_eq_true rfl)) dX1_feastLike_1 ⟨Nat.le_of_ble_eq_true rfl, Nat.le_of_ble_eq_true rfl⟩) hno hlocks (fun E h => Or.inl ⟨ex2_1 (by have h9 := h.2; (simp only [inb, noThing_iff, noThing_niff, Bool.not_eq_true', Bool.not_eq_false', Bool.or_eq_true, Bool.or_eq_false_iff, decide_eq_true_eq, decide_eq_false_iff_not] <;> omega)), h.1⟩) (Nat.le_of_ble_eq_true rfl) (Nat.le_of_ble_eq_true rfl) (fun g_1 => ?_)
  have g_1 : 0 ≤ (z1) ∧ (z1) ≤ 3 := g_1
  obtain ⟨p1, hp1, rfl⟩ : ∃ p1 : Nat, p1 < 4 ∧ z1 = (p1 : Int) := ⟨z1.toNat, by omega, by omega⟩
  have o_p1 := kOKr hOK hp1
  refine lv_iload_n hx hb dX1_feastLike_4 rfl (lv_at hl 2 rfl) ?_
  refine kcxo (fun _ q => q) (vx_runS (As := [.int (iZ z2)]) (rest := []) ⟨hx, hb, hml, hown, hts⟩ (c_X1_needPlace l hst k _ (z2) (by omega)) (va_cwS 1 hts (kg_S mw224 mw225 mw42 rfl mw226) rfl rfl rfl hdS_X1_needPlace ⟨Nat.le_of_ble_eq_true rfl, Nat.le_of_ble_eq_true rfl⟩) ⟨fun a U g mk q => ⟨q.1, q.2.1, kB_call q.2.2⟩, fun U hU hW => ⟨rfl, hU, kB_same hB hU hW⟩⟩ rfl rfl hl.1 rfl (lv_room (Nat.le_of_ble_eq_true rfl)) dX1_feastLike_5 ⟨Nat.le_of_ble_eq_true rfl, Nat.le_of_ble_eq_true rfl⟩) hno hlocks (fun E h => Or.inl ⟨ex2_1 (by have h9 := h.2; (simp only [inb, noThing_iff, noThing_niff, Bool.not_eq_true', Bool.not_eq_false', Bool.or_eq_true, Bool.or_eq_false_iff, decide_eq_true_eq, decide_eq_false_iff_not] <;> omega)), h.1⟩) (Nat.le_of_ble_eq_true rfl) (Nat.le_of_ble_eq_true rfl) (fun g_2 => ?_)
  have g_2 : 0 ≤ (z2) ∧ (z2) ≤ 3 := g_2
  obtain ⟨p2, hp2, rfl⟩ : ∃ p2 : Nat, p2 < 4 ∧ z2 = (p2 : Int) := ⟨z2.toNat, by omega, by omega⟩
  have o_p2 := kOKr hOK hp2
  refine lv_aload_n hx hb dX1_feastLike_8 rfl (lv_at hl 0 rfl) ?_
  refine lv_iload_n hx hb dX1_feastLike_9 rfl (lv_at hl 1 rfl) ?_
  refine kc0 (fun _ q => q) (va_runV (As := [.int (iZ ((p1 : Nat) : Int))]) (rest := []) ⟨hx, hb, hml, hown, hts⟩ (c_X1_feastRank l dC dI dA k q (σ) _ ⟨tb, tn, tm, htn, hfit, htm, hP⟩ (hOK) p1 (by omega)) (cwV 1 hts (kg_V mw193 mw194 mw1 mw42 rfl mw195) rfl rfl rfl hdV_X1_feastRank ⟨Nat.le_of_ble_eq_true rfl, Nat.le_of_ble_eq_true rfl⟩) ⟨fun a U g mk q => ⟨q.1, q.2.1, kM_call q.2.2⟩, va_recv hM.1 hP (ci := 4) (q0 := 0) rfl rfl, fun U hU hW => ⟨rfl, hU, kM_same hM hU hW⟩⟩ rfl rfl hl.1 rfl (lv_room (Nat.le_of_ble_eq_true rfl)) dX1_feastLike_10 ⟨Nat.le_of_ble_eq_true rfl, Nat.le_of_ble_eq_true rfl⟩) ?_
  refine lv_aload_n hx hb dX1_feastLike_13 rfl (lv_at hl 0 rfl) ?_
  refine lv_iload_n hx hb dX1_feastLike_14 rfl (lv_at hl 2 rfl) ?_
  refine kc0 (fun _ q => q) (va_runV (As := [.int (iZ ((p2 : Nat) : Int))]) (rest := [.int (iZ (32 * σ 3 p1 + σ 4 p1))]) ⟨hx, hb, hml, hown, hts⟩ (c_X1_feastRank l dC dI dA k q (σ) _ ⟨tb, tn, tm, htn, hfit, htm, hP⟩ (hOK) p2 (by omega)) (cwV 1 hts (kg_V mw193 mw194 mw1 mw42 rfl mw195) rfl rfl rfl hdV_X1_feastRank ⟨Nat.le_of_ble_eq_true rfl, Nat.le_of_ble_eq_true rfl⟩) ⟨fun a U g mk q => ⟨q.1, q.2.1, kM_call q.2.2⟩, va_recv hM.1 hP (ci := 4) (q0 := 0) rfl rfl, fun U hU hW => ⟨rfl, hU, kM_same hM hU hW⟩⟩ rfl rfl hl.1 rfl (lv_room (Nat.le_of_ble_eq_true rfl)) dX1_feastLike_15 ⟨Nat.le_of_ble_eq_true rfl, Nat.le_of_ble_eq_true rfl⟩) ?_
  refine kz_icmp_ne (tgt := 25) hx hb (by omega) (by omega) dX1_feastLike_18 (by decide) (fun c_3 => ?_) (fun c_3 => ?_)
  · refine lv_iconst (v := iZ 0) hx hb dX1_feastLike_25 rfl ?_
    refine kc0 (fun _ q => q) (va_runS (As := [.int (iZ (bZ false))]) (rest := []) ⟨hx, hb, hml, hown, hts⟩ (c_X1_oneIf l _ false) (va_cwS 1 hts (kg_S mw176 mw177 mw42 rfl mw178) rfl rfl rfl hdS_X1_oneIf ⟨Nat.le_of_ble_eq_true rfl, Nat.le_of_ble_eq_true rfl⟩) ⟨fun a U g mk q => q, fun U hU hW => ⟨rfl, hU⟩⟩ rfl rfl hl.1 rfl (lv_room (Nat.le_of_ble_eq_true rfl)) dX1_feastLike_26 ⟨Nat.le_of_ble_eq_true rfl, Nat.le_of_ble_eq_true rfl⟩) ?_
    refine lv_istore_n (lv' := [(3, .int (iZ 0)), (0, .ref (q 0)), (1, .int (iZ ((p1 : Nat) : Int))), (2, .int (iZ ((p2 : Nat) : Int)))]) hx hb dX1_feastLike_29 rfl hl (by decide) rfl (fun ls hl => ?_)
    refine lv_aload_n hx hb dX1_feastLike_30 rfl (lv_at hl 1 rfl) ?_
    refine va_get (D := (dC, dI)) (ci := 4) (v := .ref (q 3)) (C := RX1) (T := TX1) (N := 8) hx hb hts (fun w h => List.mem_cons_of_mem _ (gF_0_in h)) hown hM.1 hP 0 rfl rfl 2 (by decide) (hts _ (List.mem_cons_of_mem _ mw99)) (fun _ h9 => h9) rfl dX1_feastLike_31 ?_
    refine lv_iload_n hx hb dX1_feastLike_34 rfl (lv_at hl 2 rfl) ?_
    refine lv_aload_n hx hb dX1_feastLike_35 rfl (lv_at hl 1 rfl) ?_
    refine va_get (D := (dC, dI)) (ci := 4) (v := .ref (q 3)) (C := RX1) (T := TX1) (N := 8) hx hb hts (fun w h => List.mem_cons_of_mem _ (gF_0_in h)) hown hM.1 hP 0 rfl rfl 2 (by decide) (hts _ (List.mem_cons_of_mem _ mw99)) (fun _ h9 => h9) rfl dX1_feastLike_36 ?_
    refine lv_iload_n hx hb dX1_feastLike_39 rfl (lv_at hl 3 rfl) ?_
    refine kz_iald (v := σ 3 p2) hx hb hM.1 hP 3 0 rfl rfl (by omega) (by decide) rfl dX1_feastLike_40 ?_
    refine kxs_3 hx hb hq hM.1 hP hS hp1 (v1 := (σ 3 p2)) dX1_feastLike_41 (fun H locs hP hS => ?_)
    refine lv_aload_n hx hb dX1_feastLike_42 rfl (lv_at hl 1 rfl) ?_
    refine va_get (D := (dC, dI)) (ci := 4) (v := .ref (q 4)) (C := RX1) (T := TX1) (N := 8) hx hb hts (fun w h => List.mem_cons_of_mem _ (gF_0_in h)) hown hM.1 hP 0 rfl rfl 3 (by decide) (hts _ (List.mem_cons_of_mem _ mw100)) (fun _ h9 => h9) rfl dX1_feastLike_43 ?_
    refine lv_iload_n hx hb dX1_feastLike_46 rfl (lv_at hl 2 rfl) ?_
    refine lv_aload_n hx hb dX1_feastLike_47 rfl (lv_at hl 1 rfl) ?_
    refine va_get (D := (dC, dI)) (ci := 4) (v := .ref (q 4)) (C := RX1) (T := TX1) (N := 8) hx hb hts (fun w h => List.mem_cons_of_mem _ (gF_0_in h)) hown hM.1 hP 0 rfl rfl 3 (by decide) (hts _ (List.mem_cons_of_mem _ mw100)) (fun _ h9 => h9) rfl dX1_feastLike_48 ?_
    refine lv_iload_n hx hb dX1_feastLike_51 rfl (lv_at hl 3 rfl) ?_
    refine kz_iald (v := (sU (σ) 3 p1 (σ 3 p2)) 4 p2) hx hb hM.1 hP 4 0 rfl rfl (by omega) (by decide) rfl dX1_feastLike_52 ?_
    refine kxs_4 hx hb hq hM.1 hP hS hp1 (v1 := ((sU (σ) 3 p1 (σ 3 p2)) 4 p2)) dX1_feastLike_53 (fun H locs hP hS => ?_)
    refine lv_iload_n hx hb dX1_feastLike_54 rfl (lv_at hl 0 rfl) ?_
    refine W.widen (k := 2) (n := 12) (Nat.le_of_ble_eq_true rfl) (Nat.le_of_ble_eq_true rfl) ?_
    refine vx_ret ?_
    exact W.iret (v := iZ 0) hx hb hr (fun t ht hW => ⟨⟨⟨congrArg (fun z : Int => Outcome.returned (some (Value.int (iZ z)))) (show 0 = (bZ (decide (σ 3 p1 = σ 3 p2 ∧ σ 4 p1 = σ 4 p2))) from by exact bZ_d0 (by omega)), gX_cast ⟨tb, tn, tm, htn, hfit, htm, by rw [ht]; exact hP⟩ (show (sU (sU (σ) 3 p1 (σ 3 p2)) 4 p1 ((sU (σ) 3 p1 (σ 3 p2)) 4 p2)) = (sU (sU σ 3 p1 (σ 3 p2)) 4 p1 (σ 4 p2)) from by rfl)⟩, hS.F ht⟩, ex2_0 (by (simp only [inb, noThing_iff, noThing_niff, Bool.not_eq_true', Bool.not_eq_false', Bool.or_eq_true, Bool.or_eq_false_iff, decide_eq_true_eq, decide_eq_false_iff_not] <;> omega)) (by rfl)⟩) hS.2.2 dX1_feastLike_55
  · refine lv_iconst (v := iZ 1) hx hb dX1_feastLike_21 rfl ?_
    refine lv_goto (tgt := 26) hx hb dX1_feastLike_22 (by decide) ?_
    refine kc0 (fun _ q => q) (va_runS (As := [.int (iZ (bZ true))]) (rest := []) ⟨hx, hb, hml, hown, hts⟩ (c_X1_oneIf l _ true) (va_cwS 1 hts (kg_S mw176 mw177 mw42 rfl mw178) rfl rfl rfl hdS_X1_oneIf ⟨Nat.le_of_ble_eq_true rfl, Nat.le_of_ble_eq_true rfl⟩) ⟨fun a U g mk q => q, fun U hU hW => ⟨rfl, hU⟩⟩ rfl rfl hl.1 rfl (lv_room (Nat.le_of_ble_eq_true rfl)) dX1_feastLike_26 ⟨Nat.le_of_ble_eq_true rfl, Nat.le_of_ble_eq_true rfl⟩) ?_
    refine lv_istore_n (lv' := [(3, .int (iZ 1)), (0, .ref (q 0)), (1, .int (iZ ((p1 : Nat) : Int))), (2, .int (iZ ((p2 : Nat) : Int)))]) hx hb dX1_feastLike_29 rfl hl (by decide) rfl (fun ls hl => ?_)
    refine lv_aload_n hx hb dX1_feastLike_30 rfl (lv_at hl 1 rfl) ?_
    refine va_get (D := (dC, dI)) (ci := 4) (v := .ref (q 3)) (C := RX1) (T := TX1) (N := 8) hx hb hts (fun w h => List.mem_cons_of_mem _ (gF_0_in h)) hown hM.1 hP 0 rfl rfl 2 (by decide) (hts _ (List.mem_cons_of_mem _ mw99)) (fun _ h9 => h9) rfl dX1_feastLike_31 ?_
    refine lv_iload_n hx hb dX1_feastLike_34 rfl (lv_at hl 2 rfl) ?_
    refine lv_aload_n hx hb dX1_feastLike_35 rfl (lv_at hl 1 rfl) ?_
    refine va_get (D := (dC, dI)) (ci := 4) (v := .ref (q 3)) (C := RX1) (T := TX1) (N := 8) hx hb hts (fun w h => List.mem_cons_of_mem _ (gF_0_in h)) hown hM.1 hP 0 rfl rfl 2 (by decide) (hts _ (List.mem_cons_of_mem _ mw99)) (fun _ h9 => h9) rfl dX1_feastLike_36 ?_
    refine lv_iload_n hx hb dX1_feastLike_39 rfl (lv_at hl 3 rfl) ?_
    refine kz_iald (v := σ 3 p2) hx hb hM.1 hP 3 0 rfl rfl (by omega) (by decide) rfl dX1_feastLike_40 ?_
    refine kxs_3 hx hb hq hM.1 hP hS hp1 (v1 := (σ 3 p2)) dX1_feastLike_41 (fun H locs hP hS => ?_)
    refine lv_aload_n hx hb dX1_feastLike_42 rfl (lv_at hl 1 rfl) ?_
    refine va_get (D := (dC, dI)) (ci := 4) (v := .ref (q 4)) (C := RX1) (T := TX1) (N := 8) hx hb hts (fun w h => List.mem_cons_of_mem _ (gF_0_in h)) hown hM.1 hP 0 rfl rfl 3 (by decide) (hts _ (List.mem_cons_of_mem _ mw100)) (fun _ h9 => h9) rfl dX1_feastLike_43 ?_
    refine lv_iload_n hx hb dX1_feastLike_46 rfl (lv_at hl 2 rfl) ?_
    refine lv_aload_n hx hb dX1_feastLike_47 rfl (lv_at hl 1 rfl) ?_
    refine va_get (D := (dC, dI)) (ci := 4) (v := .ref (q 4)) (C := RX1) (T := TX1) (N := 8) hx hb hts (fun w h => List.mem_cons_of_mem _ (gF_0_in h)) hown hM.1 hP 0 rfl rfl 3 (by decide) (hts _ (List.mem_cons_of_mem _ mw100)) (fun _ h9 => h9) rfl dX1_feastLike_48 ?_
    refine lv_iload_n hx hb dX1_feastLike_51 rfl (lv_at hl 3 rfl) ?_
    refine kz_iald (v := (sU (σ) 3 p1 (σ 3 p2)) 4 p2) hx hb hM.1 hP 4 0 rfl rfl (by omega) (by decide) rfl dX1_feastLike_52 ?_
    refine kxs_4 hx hb hq hM.1 hP hS hp1 (v1 := ((sU (σ) 3 p1 (σ 3 p2)) 4 p2)) dX1_feastLike_53 (fun H locs hP hS => ?_)
    refine lv_iload_n hx hb dX1_feastLike_54 rfl (lv_at hl 0 rfl) ?_
    refine W.widen (k := 2) (n := 12) (Nat.le_of_ble_eq_true rfl) (Nat.le_of_ble_eq_true rfl) ?_
    refine vx_ret ?_
    exact W.iret (v := iZ 1) hx hb hr (fun t ht hW => ⟨⟨⟨congrArg (fun z : Int => Outcome.returned (some (Value.int (iZ z)))) (show 1 = (bZ (decide (σ 3 p1 = σ 3 p2 ∧ σ 4 p1 = σ 4 p2))) from by exact bZ_d1 (by omega)), gX_cast ⟨tb, tn, tm, htn, hfit, htm, by rw [ht]; exact hP⟩ (show (sU (sU (σ) 3 p1 (σ 3 p2)) 4 p1 ((sU (σ) 3 p1 (σ 3 p2)) 4 p2)) = (sU (sU σ 3 p1 (σ 3 p2)) 4 p1 (σ 4 p2)) from by rfl)⟩, hS.F ht⟩, ex2_0 (by (simp only [inb, noThing_iff, noThing_niff, Bool.not_eq_true', Bool.not_eq_false', Bool.or_eq_true, Bool.or_eq_false_iff, decide_eq_true_eq, decide_eq_false_iff_not] <;> omega)) (by rfl)⟩) hS.2.2 dX1_feastLike_55

abbrev ww_X1_dayAt : List Cond := .code yX1_dayAt cX1_dayAt 4 (some .int) :: gT
set_option maxHeartbeats 4000000 in
set_option maxRecDepth 100000 in
theorem c_X1_dayAt (l : Launch) (hst : l.stackTraces = false) (dC : Nat → ClassId) (dI : Nat → Nat → Nat) (dA : Nat → ClassId) (k : Nat → Nat) (q : Nat → Nat) (σ : Nat → Nat → Int) (H0 : Heap) (hG : gX dC dI dA q σ H0) (hOK : kOK σ) (hq : kQI q k) (z1 : Int) (z2 : Int) (nn : Int) (rz1 : -2147483648 ≤ z1 ∧ z1 < 2147483648) (rz2 : -2147483648 ≤ z2 ∧ z2 < 2147483648) (rnn : -2147483648 ≤ nn ∧ nn < 2147483648) : vx_Met l yX1_dayAt ww_X1_dayAt ({ frames := 10, cells := 3, slots := 18, locals := 342 }) (va_Pc [.ref (q 0), .int (iZ z1), .int (iZ z2), .int (iZ nn)] (fun U => U.heap = H0 ∧ kM dC dI dA k U)) (kQ2x (ex2 (!inb z1 0 3 || !inb z2 0 3) (!inb nn 1 31) = 0) (some (.int (iZ (if nn ≤ mlen (leap (σ 0 (z2.toNat))) (σ 1 (z2.toNat)) then 1 + (dnum (σ 0 (z2.toNat)) (σ 1 (z2.toNat)) nn + 3) % 7 else -9)))) (gX dC dI dA q (if nn ≤ mlen (leap (σ 0 (z2.toNat))) (σ 1 (z2.toNat)) then setD σ (z1.toNat) (σ 0 (z2.toNat)) (σ 1 (z2.toNat)) nn else σ)) (kA q H0.size)) (kXC (fun E => (ex2 (!inb z1 0 3 || !inb z2 0 3) (!inb nn 1 31) = 1 ∧ E = "java/lang/IndexOutOfBoundsException") ∨ (ex2 (!inb z1 0 3 || !inb z2 0 3) (!inb nn 1 31) = 2 ∧ E = "java/lang/IllegalArgumentException"))) 3 18 (kA q H0.size) := by
  refine vx_ofW (cc := cX1_dayAt) (maxL := 4) (ret := (some .int)) (by decide) rfl ?_
  intro p e s m args below meth c s₁ B hml hno hv
  obtain ⟨rfl, hH, hM⟩ := hv
  subst hH
  have hB := hM.2.1
  obtain ⟨tb, tn, tm, htn, hfit, htm, hP⟩ := hG
  have hS : va_S (kA q s.heap.size) s.heap s.heap [] := va_S.rf
  have hx := B.exec
  have hb := B.bytes
  have hr := B.returns
  have hts := atoms_spec (ws := ww_X1_dayAt) B.pre
  have hown : s.vm.findClass RX1 = some m.cls := findClass_of_methodNamed B.named
  have hlocks := B.notSynchronized
  have hl := lv_entry ([.ref (q 0), .int (iZ z1), .int (iZ z2), .int (iZ nn)]) (n := 4) (Nat.le_of_ble_eq_true rfl)
  rw [lg_entry_eq]
  generalize (lg_sl ([.ref (q 0), .int (iZ z1), .int (iZ z2), .int (iZ nn)]) ++ List.replicate (4 - (lg_sl ([.ref (q 0), .int (iZ z1), .int (iZ z2), .int (iZ nn)])).length) Slot.unset).toArray = ls at hl ⊢
  have hl : lv_has ls 4 [(0, .ref (q 0)), (1, .int (iZ z1)), (2, .int (iZ z2)), (3, .int (iZ nn))] := hl
  refine lv_iload_n hx hb dX1_dayAt_0 rfl (lv_at hl 1 rfl) ?_
  refine kcxo (fun _ q => q) (vx_runS (As := [.int (iZ z1)]) (rest := []) ⟨hx, hb, hml, hown, hts⟩ (c_X1_needPlace l hst k _ (z1) (by first | omega | (simp only [sU]; simp; have e1 := yearOf_cnt (y := σ 0 p2) (m := σ 1 p2) (by omega); have e2 := monOf_cnt (y := σ 0 p2) (m := σ 1 p2) (by omega); have e3 := lenOf_cnt (y := σ 0 p2) (m := σ 1 p2) (by omega); rw [e1, e2]; have := dnum_rng (y := σ 0 p2) (m := σ 1 p2) (d := nn) (by omega) (by omega) (by omega); omega))) (va_cwS 1 hts (kg_S mw224 mw225 mw42 rfl mw226) rfl rfl rfl hdS_X1_needPlace ⟨Nat.le_of_ble_eq_true rfl, Nat.le_of_ble_eq_true rfl⟩) ⟨fun a U g mk q => ⟨q.1, q.2.1, kB_call q.2.2⟩, fun U hU hW => ⟨rfl, hU, kB_same hB hU hW⟩⟩ rfl rfl hl.1 rfl (lv_room (Nat.le_of_ble_eq_true rfl)) dX1_dayAt_1 ⟨Nat.le_of_ble_eq_true rfl, Nat.le_of_ble_eq_true rfl⟩) hno hlocks (fun E h => Or.inl ⟨ex2_1 (by have h9 := h.2; (simp only [inb, noThing_iff, noThing_niff, Bool.not_eq_true', Bool.not_eq_false', Bool.or_eq_true, Bool.or_eq_false_iff, decide_eq_true_eq, decide_eq_false_iff_not] <;> omega)), h.1⟩) (Nat.le_of_ble_eq_true rfl) (Nat.le_of_ble_eq_true rfl) (fun g_1 => ?_)
  have g_1 : 0 ≤ (z1) ∧ (z1) ≤ 3 := g_1
  obtain ⟨p1, hp1, rfl⟩ : ∃ p1 : Nat, p1 < 4 ∧ z1 = (p1 : Int) := ⟨z1.toNat, by omega, by omega⟩
  have o_p1 := kOKr hOK hp1
  refine lv_iload_n hx hb dX1_dayAt_4 rfl (lv_at hl 2 rfl) ?_
  refine kcxo (fun _ q => q) (vx_runS (As := [.int (iZ z2)]) (rest := []) ⟨hx, hb, hml, hown, hts⟩ (c_X1_needPlace l hst k _ (z2) (by first | omega | (simp only [sU]; simp; have e1 := yearOf_cnt (y := σ 0 p2) (m := σ 1 p2) (by omega); have e2 := monOf_cnt (y := σ 0 p2) (m := σ 1 p2) (by omega); have e3 := lenOf_cnt (y := σ 0 p2) (m := σ 1 p2) (by omega); rw [e1, e2]; have := dnum_rng (y := σ 0 p2) (m := σ 1 p2) (d := nn) (by omega) (by omega) (by omega); omega))) (va_cwS 1 hts (kg_S mw224 mw225 mw42 rfl mw226) rfl rfl rfl hdS_X1_needPlace ⟨Nat.le_of_ble_eq_true rfl, Nat.le_of_ble_eq_true rfl⟩) ⟨fun a U g mk q => ⟨q.1, q.2.1, kB_call q.2.2⟩, fun U hU hW => ⟨rfl, hU, kB_same hB hU hW⟩⟩ rfl rfl hl.1 rfl (lv_room (Nat.le_of_ble_eq_true rfl)) dX1_dayAt_5 ⟨Nat.le_of_ble_eq_true rfl, Nat.le_of_ble_eq_true rfl⟩) hno hlocks (fun E h => Or.inl ⟨ex2_1 (by have h9 := h.2; (simp only [inb, noThing_iff, noThing_niff, Bool.not_eq_true', Bool.not_eq_false', Bool.or_eq_true, Bool.or_eq_false_iff, decide_eq_true_eq, decide_eq_false_iff_not] <;> omega)), h.1⟩) (Nat.le_of_ble_eq_true rfl) (Nat.le_of_ble_eq_true rfl) (fun g_2 => ?_)
  have g_2 : 0 ≤ (z2) ∧ (z2) ≤ 3 := g_2
  obtain ⟨p2, hp2, rfl⟩ : ∃ p2 : Nat, p2 < 4 ∧ z2 = (p2 : Int) := ⟨z2.toNat, by omega, by omega⟩
  have o_p2 := kOKr hOK hp2
  refine lv_iload_n hx hb dX1_dayAt_8 rfl (lv_at hl 3 rfl) ?_
  refine kcxo (fun _ q => q) (vx_runS (As := [.int (iZ nn)]) (rest := []) ⟨hx, hb, hml, hown, hts⟩ (c_X1_needDayOfMonth l hst k _ (nn) (by first | omega | (simp only [sU]; simp; have e1 := yearOf_cnt (y := σ 0 p2) (m := σ 1 p2) (by omega); have e2 := monOf_cnt (y := σ 0 p2) (m := σ 1 p2) (by omega); have e3 := lenOf_cnt (y := σ 0 p2) (m := σ 1 p2) (by omega); rw [e1, e2]; have := dnum_rng (y := σ 0 p2) (m := σ 1 p2) (d := nn) (by omega) (by omega) (by omega); omega))) (va_cwS 1 hts (kg_S mw787 mw788 mw42 rfl mw789) rfl rfl rfl hdS_X1_needDayOfMonth ⟨Nat.le_of_ble_eq_true rfl, Nat.le_of_ble_eq_true rfl⟩) ⟨fun a U g mk q => ⟨q.1, q.2.1, kB_call q.2.2⟩, fun U hU hW => ⟨rfl, hU, kB_same hB hU hW⟩⟩ rfl rfl hl.1 rfl (lv_room (Nat.le_of_ble_eq_true rfl)) dX1_dayAt_9 ⟨Nat.le_of_ble_eq_true rfl, Nat.le_of_ble_eq_true rfl⟩) hno hlocks (fun E h => Or.inr ⟨ex2_2 (by (simp only [inb, noThing_iff, noThing_niff, Bool.not_eq_true', Bool.not_eq_false', Bool.or_eq_true, Bool.or_eq_false_iff, decide_eq_true_eq, decide_eq_false_iff_not] <;> omega)) (by have h9 := h.2; (simp only [inb, noThing_iff, noThing_niff, Bool.not_eq_true', Bool.not_eq_false', Bool.or_eq_true, Bool.or_eq_false_iff, decide_eq_true_eq, decide_eq_false_iff_not] <;> omega)), h.1⟩) (Nat.le_of_ble_eq_true rfl) (Nat.le_of_ble_eq_true rfl) (fun g_3 => ?_)
  have g_3 : 1 ≤ (nn) ∧ (nn) ≤ 31 := g_3
  refine lv_aload_n hx hb dX1_dayAt_12 rfl (lv_at hl 0 rfl) ?_
  refine va_get (D := (dC, dI)) (ci := 4) (v := .ref (q 1)) (C := RX1) (T := TX1) (N := 8) hx hb hts (fun w h => List.mem_cons_of_mem _ (gF_0_in h)) hown hM.1 hP 0 rfl rfl 0 (by decide) (hts _ (List.mem_cons_of_mem _ mw97)) (fun _ h9 => h9) rfl dX1_dayAt_13 ?_
  refine lv_iload_n hx hb dX1_dayAt_16 rfl (lv_at hl 2 rfl) ?_
  refine kz_lald (v := cnt (σ 0 p2) (σ 1 p2)) hx hb hM.1 hP 1 1 rfl rfl (by omega) (by decide) rfl dX1_dayAt_17 ?_
  refine lv_iload_n hx hb dX1_dayAt_18 rfl (lv_at hl 3 rfl) ?_
  refine kc0 (fun _ q => q) (va_runS (As := [.long (lZ (cnt (σ 0 p2) (σ 1 p2))), .int (iZ nn)]) (rest := []) ⟨hx, hb, hml, hown, hts⟩ (c_X0_isDayOfCount l _ ((cnt (σ 0 p2) (σ 1 p2))) (nn) (by first | omega | (simp only [sU]; simp; have e1 := yearOf_cnt (y := σ 0 p2) (m := σ 1 p2) (by omega); have e2 := monOf_cnt (y := σ 0 p2) (m := σ 1 p2) (by omega); have e3 := lenOf_cnt (y := σ 0 p2) (m := σ 1 p2) (by omega); rw [e1, e2]; have := dnum_rng (y := σ 0 p2) (m := σ 1 p2) (d := nn) (by omega) (by omega) (by omega); omega)) (by first | omega | (simp only [sU]; simp; have e1 := yearOf_cnt (y := σ 0 p2) (m := σ 1 p2) (by omega); have e2 := monOf_cnt (y := σ 0 p2) (m := σ 1 p2) (by omega); have e3 := lenOf_cnt (y := σ 0 p2) (m := σ 1 p2) (by omega); rw [e1, e2]; have := dnum_rng (y := σ 0 p2) (m := σ 1 p2) (d := nn) (by omega) (by omega) (by omega); omega))) (va_cwS 2 hts (kg_S mw157 mw158 mw51 rfl mw159) rfl rfl rfl hdS_X0_isDayOfCount ⟨Nat.le_of_ble_eq_true rfl, Nat.le_of_ble_eq_true rfl⟩) ⟨fun a U g mk q => q, fun U hU hW => ⟨rfl, hU⟩⟩ rfl rfl hl.1 rfl (lv_room (Nat.le_of_ble_eq_true rfl)) dX1_dayAt_19 ⟨Nat.le_of_ble_eq_true rfl, Nat.le_of_ble_eq_true rfl⟩) ?_
  refine kz_ifb_ne (tgt := 28) hx hb  dX1_dayAt_22 (by decide) (fun c_4 => ?_) (fun c_4 => ?_)
  · refine lv_aload_n hx hb dX1_dayAt_28 rfl (lv_at hl 0 rfl) ?_
    refine lv_iload_n hx hb dX1_dayAt_29 rfl (lv_at hl 1 rfl) ?_
    refine lv_aload_n hx hb dX1_dayAt_30 rfl (lv_at hl 0 rfl) ?_
    refine va_get (D := (dC, dI)) (ci := 4) (v := .ref (q 1)) (C := RX1) (T := TX1) (N := 8) hx hb hts (fun w h => List.mem_cons_of_mem _ (gF_0_in h)) hown hM.1 hP 0 rfl rfl 0 (by decide) (hts _ (List.mem_cons_of_mem _ mw97)) (fun _ h9 => h9) rfl dX1_dayAt_31 ?_
    refine lv_iload_n hx hb dX1_dayAt_34 rfl (lv_at hl 2 rfl) ?_
    refine kz_lald (v := cnt (σ 0 p2) (σ 1 p2)) hx hb hM.1 hP 1 1 rfl rfl (by omega) (by decide) rfl dX1_dayAt_35 ?_
    refine lv_iload_n hx hb dX1_dayAt_36 rfl (lv_at hl 3 rfl) ?_
    refine kc2 (va_runV (As := [.int (iZ ((p1 : Nat) : Int)), .long (lZ (cnt (σ 0 p2) (σ 1 p2))), .int (iZ nn)]) (rest := []) ⟨hx, hb, hml, hown, hts⟩ (c_X1_putDay l dC dI dA k q (σ) _ ⟨tb, tn, tm, htn, hfit, htm, hP⟩ (hOK) hq p1 ((cnt (σ 0 p2) (σ 1 p2))) (nn) hp1) (cwV 3 hts (kg_V mw836 mw837 mw24 mw42 rfl mw838) rfl rfl rfl hdV_X1_putDay ⟨Nat.le_of_ble_eq_true rfl, Nat.le_of_ble_eq_true rfl⟩) ⟨fun a U g mk q => ⟨q.1, q.2.1, kM_call q.2.2⟩, va_recv hM.1 hP (ci := 4) (q0 := 0) rfl rfl, fun U hU hW => ⟨rfl, hU, kM_kept hM hS (kA_N hq hM.2.1.1) hU hW⟩⟩ rfl rfl hl.1 rfl (lv_room (Nat.le_of_ble_eq_true rfl)) dX1_dayAt_37 ⟨Nat.le_of_ble_eq_true rfl, Nat.le_of_ble_eq_true rfl⟩) hS (fun a _ h => kA_up hS.1 a h) (fun a h => kA_up hS.1 a h) (fun H locs hG hz9 hk9 hS => ?_)
    obtain ⟨tb, tn, tm, htn, hfit, htm, hP⟩ := hG
    refine lv_aload_n hx hb dX1_dayAt_40 rfl (lv_at hl 0 rfl) ?_
    refine lv_iload_n hx hb dX1_dayAt_41 rfl (lv_at hl 1 rfl) ?_
    refine kc0 (fun _ q => q) (va_runV (As := [.int (iZ ((p1 : Nat) : Int))]) (rest := []) ⟨hx, hb, hml, hown, hts⟩ (c_X1_weekdayAt l dC dI dA k q (sU (sU (sU σ 5 p1 (yearOf (((cnt (σ 0 p2) (σ 1 p2)))))) 6 p1 (monOf (((cnt (σ 0 p2) (σ 1 p2)))))) 7 p1 ((nn))) _ ⟨tb, tn, tm, htn, hfit, htm, hP⟩ (by have hz := mlen_rng (leap (σ 0 p2)) (σ 1 p2); have e1 := yearOf_cnt (y := σ 0 p2) (m := σ 1 p2) (by omega); have e2 := monOf_cnt (y := σ 0 p2) (m := σ 1 p2) (by omega); have e3 := lenOf_cnt (y := σ 0 p2) (m := σ 1 p2) (by omega); rw [e1, e2]; exact kOK_day hOK (by omega) (by omega) (by simp only [decide_eq_true_eq] at *; omega)) p1 (by first | omega | (simp only [sU]; simp; have e1 := yearOf_cnt (y := σ 0 p2) (m := σ 1 p2) (by omega); have e2 := monOf_cnt (y := σ 0 p2) (m := σ 1 p2) (by omega); have e3 := lenOf_cnt (y := σ 0 p2) (m := σ 1 p2) (by omega); rw [e1, e2]; have := dnum_rng (y := σ 0 p2) (m := σ 1 p2) (d := nn) (by omega) (by omega) (by omega); omega))) (cwV 1 hts (kg_V mw552 mw553 mw12 mw42 rfl mw554) rfl rfl rfl hdV_X1_weekdayAt ⟨Nat.le_of_ble_eq_true rfl, Nat.le_of_ble_eq_true rfl⟩) ⟨fun a U g mk q => ⟨q.1, q.2.1, kM_call q.2.2⟩, va_recv hM.1 hP (ci := 4) (q0 := 0) rfl rfl, fun U hU hW => ⟨rfl, hU, kM_kept hM hS (kA_N hq hM.2.1.1) hU hW⟩⟩ rfl rfl hl.1 rfl (lv_room (Nat.le_of_ble_eq_true rfl)) dX1_dayAt_42 ⟨Nat.le_of_ble_eq_true rfl, Nat.le_of_ble_eq_true rfl⟩) ?_
    refine W.widen (k := 3) (n := 18) (Nat.le_of_ble_eq_true rfl) (Nat.le_of_ble_eq_true rfl) ?_
    refine vx_ret ?_
    exact W.iret (v := iZ (1 + (dnum ((sU (sU (sU σ 5 p1 (yearOf (((cnt (σ 0 p2) (σ 1 p2)))))) 6 p1 (monOf (((cnt (σ 0 p2) (σ 1 p2)))))) 7 p1 ((nn))) 5 p1) ((sU (sU (sU σ 5 p1 (yearOf (((cnt (σ 0 p2) (σ 1 p2)))))) 6 p1 (monOf (((cnt (σ 0 p2) (σ 1 p2)))))) 7 p1 ((nn))) 6 p1) ((sU (sU (sU σ 5 p1 (yearOf (((cnt (σ 0 p2) (σ 1 p2)))))) 6 p1 (monOf (((cnt (σ 0 p2) (σ 1 p2)))))) 7 p1 ((nn))) 7 p1) + 3) % 7)) hx hb hr (fun t ht hW => ⟨⟨⟨congrArg (fun z : Int => Outcome.returned (some (Value.int (iZ z)))) (show (1 + (dnum ((sU (sU (sU σ 5 p1 (yearOf (((cnt (σ 0 p2) (σ 1 p2)))))) 6 p1 (monOf (((cnt (σ 0 p2) (σ 1 p2)))))) 7 p1 ((nn))) 5 p1) ((sU (sU (sU σ 5 p1 (yearOf (((cnt (σ 0 p2) (σ 1 p2)))))) 6 p1 (monOf (((cnt (σ 0 p2) (σ 1 p2)))))) 7 p1 ((nn))) 6 p1) ((sU (sU (sU σ 5 p1 (yearOf (((cnt (σ 0 p2) (σ 1 p2)))))) 6 p1 (monOf (((cnt (σ 0 p2) (σ 1 p2)))))) 7 p1 ((nn))) 7 p1) + 3) % 7) = (if nn ≤ mlen (leap (σ 0 p2)) (σ 1 p2) then 1 + (dnum (σ 0 p2) (σ 1 p2) nn + 3) % 7 else -9) from by have e1 := yearOf_cnt (y := σ 0 p2) (m := σ 1 p2) (by omega); have e2 := monOf_cnt (y := σ 0 p2) (m := σ 1 p2) (by omega); have e3 := lenOf_cnt (y := σ 0 p2) (m := σ 1 p2) (by omega); simp only [decide_eq_true_eq, decide_eq_false_iff_not] at *; rw [if_pos (by omega)]; simp only [sU]; simp; rw [e1, e2]), gX_cast ⟨tb, tn, tm, htn, hfit, htm, by rw [ht]; exact hP⟩ (show (sU (sU (sU σ 5 p1 (yearOf (((cnt (σ 0 p2) (σ 1 p2)))))) 6 p1 (monOf (((cnt (σ 0 p2) (σ 1 p2)))))) 7 p1 ((nn))) = (if nn ≤ mlen (leap (σ 0 p2)) (σ 1 p2) then setD σ p1 (σ 0 p2) (σ 1 p2) nn else σ) from by have e1 := yearOf_cnt (y := σ 0 p2) (m := σ 1 p2) (by omega); have e2 := monOf_cnt (y := σ 0 p2) (m := σ 1 p2) (by omega); have e3 := lenOf_cnt (y := σ 0 p2) (m := σ 1 p2) (by omega); simp only [decide_eq_true_eq, decide_eq_false_iff_not] at *; rw [if_pos (by omega), e1, e2]; rfl)⟩, hS.F ht⟩, ex2_0 (by (simp only [inb, noThing_iff, noThing_niff, Bool.not_eq_true', Bool.not_eq_false', Bool.or_eq_true, Bool.or_eq_false_iff, decide_eq_true_eq, decide_eq_false_iff_not] <;> omega)) (by (simp only [inb, noThing_iff, noThing_niff, Bool.not_eq_true', Bool.not_eq_false', Bool.or_eq_true, Bool.or_eq_false_iff, decide_eq_true_eq, decide_eq_false_iff_not] <;> omega))⟩) hS.2.2 dX1_dayAt_45
  · refine lv_bipush (v := iZ (-9)) hx hb dX1_dayAt_25 rfl ?_
    refine W.widen (k := 3) (n := 18) (Nat.le_of_ble_eq_true rfl) (Nat.le_of_ble_eq_true rfl) ?_
    refine vx_ret ?_
    exact W.iret (v := iZ ((-9))) hx hb hr (fun t ht hW => ⟨⟨⟨congrArg (fun z : Int => Outcome.returned (some (Value.int (iZ z)))) (show ((-9)) = (if nn ≤ mlen (leap (σ 0 p2)) (σ 1 p2) then 1 + (dnum (σ 0 p2) (σ 1 p2) nn + 3) % 7 else -9) from by have e1 := yearOf_cnt (y := σ 0 p2) (m := σ 1 p2) (by omega); have e2 := monOf_cnt (y := σ 0 p2) (m := σ 1 p2) (by omega); have e3 := lenOf_cnt (y := σ 0 p2) (m := σ 1 p2) (by omega); simp only [decide_eq_true_eq, decide_eq_false_iff_not] at *; rw [if_neg (by omega)]), gX_cast ⟨tb, tn, tm, htn, hfit, htm, by rw [ht]; exact hP⟩ (show (σ) = (if nn ≤ mlen (leap (σ 0 p2)) (σ 1 p2) then setD σ p1 (σ 0 p2) (σ 1 p2) nn else σ) from by have e1 := yearOf_cnt (y := σ 0 p2) (m := σ 1 p2) (by omega); have e2 := monOf_cnt (y := σ 0 p2) (m := σ 1 p2) (by omega); have e3 := lenOf_cnt (y := σ 0 p2) (m := σ 1 p2) (by omega); simp only [decide_eq_true_eq, decide_eq_false_iff_not] at *; rw [if_neg (by omega)])⟩, hS.F ht⟩, ex2_0 (by (simp only [inb, noThing_iff, noThing_niff, Bool.not_eq_true', Bool.not_eq_false', Bool.or_eq_true, Bool.or_eq_false_iff, decide_eq_true_eq, decide_eq_false_iff_not] <;> omega)) (by (simp only [inb, noThing_iff, noThing_niff, Bool.not_eq_true', Bool.not_eq_false', Bool.or_eq_true, Bool.or_eq_false_iff, decide_eq_true_eq, decide_eq_false_iff_not] <;> omega))⟩) hS.2.2 dX1_dayAt_27

abbrev ww_X1_dayEnd : List Cond := .code yX1_dayEnd cX1_dayEnd 3 (some .int) :: gT
set_option maxHeartbeats 4000000 in
set_option maxRecDepth 100000 in
theorem c_X1_dayEnd (l : Launch) (hst : l.stackTraces = false) (dC : Nat → ClassId) (dI : Nat → Nat → Nat) (dA : Nat → ClassId) (k : Nat → Nat) (q : Nat → Nat) (σ : Nat → Nat → Int) (H0 : Heap) (hG : gX dC dI dA q σ H0) (hOK : kOK σ) (hq : kQI q k) (z1 : Int) (z2 : Int) (rz1 : -2147483648 ≤ z1 ∧ z1 < 2147483648) (rz2 : -2147483648 ≤ z2 ∧ z2 < 2147483648) : vx_Met l yX1_dayEnd ww_X1_dayEnd ({ frames := 9, cells := 2, slots := 12, locals := 320 }) (va_Pc [.ref (q 0), .int (iZ z1), .int (iZ z2)] (fun U => U.heap = H0 ∧ kM dC dI dA k U)) (kQ2x (ex2 (!inb z1 0 3 || !inb z2 0 3) (false) = 0) (some (.int (iZ (mlen (leap (σ 0 (z2.toNat))) (σ 1 (z2.toNat)))))) (gX dC dI dA q (setD σ (z1.toNat) (σ 0 (z2.toNat)) (σ 1 (z2.toNat)) (mlen (leap (σ 0 (z2.toNat))) (σ 1 (z2.toNat))))) (kA q H0.size)) (kXC (fun E => (ex2 (!inb z1 0 3 || !inb z2 0 3) (false) = 1 ∧ E = "java/lang/IndexOutOfBoundsException") ∨ (ex2 (!inb z1 0 3 || !inb z2 0 3) (false) = 2 ∧ E = "java/lang/IllegalArgumentException"))) 2 12 (kA q H0.size) := by
  refine vx_ofW (cc := cX1_dayEnd) (maxL := 3) (ret := (some .int)) (by decide) rfl ?_
  intro p e s m args below meth c s₁ B hml hno hv
  obtain ⟨rfl, hH, hM⟩ := hv
  subst hH
  have hB := hM.2.1
  obtain ⟨tb, tn, tm, htn, hfit, htm, hP⟩ := hG
  have hS : va_S (kA q s.heap.size) s.heap s.heap [] := va_S.rf
  have hx := B.exec
  have hb := B.bytes
  have hr := B.returns
  have hts := atoms_spec (ws := ww_X1_dayEnd) B.pre
  have hown : s.vm.findClass RX1 = some m.cls := findClass_of_methodNamed B.named
  have hlocks := B.notSynchronized
  have hl := lv_entry ([.ref (q 0), .int (iZ z1), .int (iZ z2)]) (n := 3) (Nat.le_of_ble_eq_true rfl)
  rw [lg_entry_eq]
  generalize (lg_sl ([.ref (q 0), .int (iZ z1), .int (iZ z2)]) ++ List.replicate (3 - (lg_sl ([.ref (q 0), .int (iZ z1), .int (iZ z2)])).length) Slot.unset).toArray = ls at hl ⊢
  have hl : lv_has ls 3 [(0, .ref (q 0)), (1, .int (iZ z1)), (2, .int (iZ z2))] := hl
  refine lv_iload_n hx hb dX1_dayEnd_0 rfl (lv_at hl 1 rfl) ?_
  refine kcxo (fun _ q => q) (vx_runS (As := [.int (iZ z1)]) (rest := []) ⟨hx, hb, hml, hown, hts⟩ (c_X1_needPlace l hst k _ (z1) (by omega)) (va_cwS 1 hts (kg_S mw224 mw225 mw42 rfl mw226) rfl rfl rfl hdS_X1_needPlace ⟨Nat.le_of_ble_eq_true rfl, Nat.le_of_ble_eq_true rfl⟩) ⟨fun a U g mk q => ⟨q.1, q.2.1, kB_call q.2.2⟩, fun U hU hW => ⟨rfl, hU, kB_same hB hU hW⟩⟩ rfl rfl hl.1 rfl (lv_room (Nat.le_of_ble_eq_true rfl)) dX1_dayEnd_1 ⟨Nat.le_of_ble_eq_true rfl, Nat.le_of_ble_eq_true rfl⟩) hno hlocks (fun E h => Or.inl ⟨ex2_1 (by have h9 := h.2; (simp only [inb, noThing_iff, noThing_niff, Bool.not_eq_true', Bool.not_eq_false', Bool.or_eq_true, Bool.or_eq_false_iff, decide_eq_true_eq, decide_eq_false_iff_not] <;> omega)), h.1⟩) (Nat.le_of_ble_eq_true rfl) (Nat.le_of_ble_eq_true rfl) (fun g_1 => ?_)
  have g_1 : 0 ≤ (z1) ∧ (z1) ≤ 3 := g_1
  obtain ⟨p1, hp1, rfl⟩ : ∃ p1 : Nat, p1 < 4 ∧ z1 = (p1 : Int) := ⟨z1.toNat, by omega, by omega⟩
  have o_p1 := kOKr hOK hp1
  refine lv_iload_n hx hb dX1_dayEnd_4 rfl (lv_at hl 2 rfl) ?_
  refine kcxo (fun _ q => q) (vx_runS (As := [.int (iZ z2)]) (rest := []) ⟨hx, hb, hml, hown, hts⟩ (c_X1_needPlace l hst k _ (z2) (by omega)) (va_cwS 1 hts (kg_S mw224 mw225 mw42 rfl mw226) rfl rfl rfl hdS_X1_needPlace ⟨Nat.le_of_ble_eq_true rfl, Nat.le_of_ble_eq_true rfl⟩) ⟨fun a U g mk q => ⟨q.1, q.2.1, kB_call q.2.2⟩, fun U hU hW => ⟨rfl, hU, kB_same hB hU hW⟩⟩ rfl rfl hl.1 rfl (lv_room (Nat.le_of_ble_eq_true rfl)) dX1_dayEnd_5 ⟨Nat.le_of_ble_eq_true rfl, Nat.le_of_ble_eq_true rfl⟩) hno hlocks (fun E h => Or.inl ⟨ex2_1 (by have h9 := h.2; (simp only [inb, noThing_iff, noThing_niff, Bool.not_eq_true', Bool.not_eq_false', Bool.or_eq_true, Bool.or_eq_false_iff, decide_eq_true_eq, decide_eq_false_iff_not] <;> omega)), h.1⟩) (Nat.le_of_ble_eq_true rfl) (Nat.le_of_ble_eq_true rfl) (fun g_2 => ?_)
  have g_2 : 0 ≤ (z2) ∧ (z2) ≤ 3 := g_2
  obtain ⟨p2, hp2, rfl⟩ : ∃ p2 : Nat, p2 < 4 ∧ z2 = (p2 : Int) := ⟨z2.toNat, by omega, by omega⟩
  have o_p2 := kOKr hOK hp2
  refine lv_aload_n hx hb dX1_dayEnd_8 rfl (lv_at hl 0 rfl) ?_
  refine lv_iload_n hx hb dX1_dayEnd_9 rfl (lv_at hl 1 rfl) ?_
  refine lv_aload_n hx hb dX1_dayEnd_10 rfl (lv_at hl 0 rfl) ?_
  refine va_get (D := (dC, dI)) (ci := 4) (v := .ref (q 1)) (C := RX1) (T := TX1) (N := 8) hx hb hts (fun w h => List.mem_cons_of_mem _ (gF_0_in h)) hown hM.1 hP 0 rfl rfl 0 (by decide) (hts _ (List.mem_cons_of_mem _ mw97)) (fun _ h9 => h9) rfl dX1_dayEnd_11 ?_
  refine lv_iload_n hx hb dX1_dayEnd_14 rfl (lv_at hl 2 rfl) ?_
  refine kz_lald (v := cnt (σ 0 p2) (σ 1 p2)) hx hb hM.1 hP 1 1 rfl rfl (by omega) (by decide) rfl dX1_dayEnd_15 ?_
  refine lv_aload_n hx hb dX1_dayEnd_16 rfl (lv_at hl 0 rfl) ?_
  refine va_get (D := (dC, dI)) (ci := 4) (v := .ref (q 1)) (C := RX1) (T := TX1) (N := 8) hx hb hts (fun w h => List.mem_cons_of_mem _ (gF_0_in h)) hown hM.1 hP 0 rfl rfl 0 (by decide) (hts _ (List.mem_cons_of_mem _ mw97)) (fun _ h9 => h9) rfl dX1_dayEnd_17 ?_
  refine lv_iload_n hx hb dX1_dayEnd_20 rfl (lv_at hl 2 rfl) ?_
  refine kz_lald (v := cnt (σ 0 p2) (σ 1 p2)) hx hb hM.1 hP 1 1 rfl rfl (by omega) (by decide) rfl dX1_dayEnd_21 ?_
  refine kc0 (fun _ q => q) (va_runS (As := [.long (lZ (cnt (σ 0 p2) (σ 1 p2)))]) (rest := [.long (lZ (cnt (σ 0 p2) (σ 1 p2))), .int (iZ ((p1 : Nat) : Int)), .ref (q 0)]) ⟨hx, hb, hml, hown, hts⟩ (c_X0_lengthOf l _ ((cnt (σ 0 p2) (σ 1 p2))) (by omega)) (va_cwS 1 hts (kg_S mw132 mw133 mw51 rfl mw134) rfl rfl rfl hdS_X0_lengthOf ⟨Nat.le_of_ble_eq_true rfl, Nat.le_of_ble_eq_true rfl⟩) ⟨fun a U g mk q => q, fun U hU hW => ⟨rfl, hU⟩⟩ rfl rfl hl.1 rfl (lv_room (Nat.le_of_ble_eq_true rfl)) dX1_dayEnd_22 ⟨Nat.le_of_ble_eq_true rfl, Nat.le_of_ble_eq_true rfl⟩) ?_
  refine kc2 (va_runV (As := [.int (iZ ((p1 : Nat) : Int)), .long (lZ (cnt (σ 0 p2) (σ 1 p2))), .int (iZ (lenOf (((cnt (σ 0 p2) (σ 1 p2))))))]) (rest := []) ⟨hx, hb, hml, hown, hts⟩ (c_X1_putDay l dC dI dA k q (σ) _ ⟨tb, tn, tm, htn, hfit, htm, hP⟩ (hOK) hq p1 ((cnt (σ 0 p2) (σ 1 p2))) ((lenOf (((cnt (σ 0 p2) (σ 1 p2)))))) hp1) (cwV 3 hts (kg_V mw836 mw837 mw24 mw42 rfl mw838) rfl rfl rfl hdV_X1_putDay ⟨Nat.le_of_ble_eq_true rfl, Nat.le_of_ble_eq_true rfl⟩) ⟨fun a U g mk q => ⟨q.1, q.2.1, kM_call q.2.2⟩, va_recv hM.1 hP (ci := 4) (q0 := 0) rfl rfl, fun U hU hW => ⟨rfl, hU, kM_kept hM hS (kA_N hq hM.2.1.1) hU hW⟩⟩ rfl rfl hl.1 rfl (lv_room (Nat.le_of_ble_eq_true rfl)) dX1_dayEnd_25 ⟨Nat.le_of_ble_eq_true rfl, Nat.le_of_ble_eq_true rfl⟩) hS (fun a _ h => kA_up hS.1 a h) (fun a h => kA_up hS.1 a h) (fun H locs hG hz9 hk9 hS => ?_)
  obtain ⟨tb, tn, tm, htn, hfit, htm, hP⟩ := hG
  refine lv_aload_n hx hb dX1_dayEnd_28 rfl (lv_at hl 0 rfl) ?_
  refine va_get (D := (dC, dI)) (ci := 4) (v := .ref (q 6)) (C := RX1) (T := TX1) (N := 8) hx hb hts (fun w h => List.mem_cons_of_mem _ (gF_0_in h)) hown hM.1 hP 0 rfl rfl 5 (by decide) (hts _ (List.mem_cons_of_mem _ mw102)) (fun _ h9 => h9) rfl dX1_dayEnd_29 ?_
  refine lv_iload_n hx hb dX1_dayEnd_32 rfl (lv_at hl 1 rfl) ?_
  refine kz_iald (v := (sU (sU (sU σ 5 p1 (yearOf (((cnt (σ 0 p2) (σ 1 p2)))))) 6 p1 (monOf (((cnt (σ 0 p2) (σ 1 p2)))))) 7 p1 (((lenOf (((cnt (σ 0 p2) (σ 1 p2)))))))) 7 p1) hx hb hM.1 hP 6 0 rfl rfl (by omega) (by decide) rfl dX1_dayEnd_33 ?_
  refine W.widen (k := 2) (n := 12) (Nat.le_of_ble_eq_true rfl) (Nat.le_of_ble_eq_true rfl) ?_
  refine vx_ret ?_
  exact W.iret (v := iZ ((sU (sU (sU σ 5 p1 (yearOf (((cnt (σ 0 p2) (σ 1 p2)))))) 6 p1 (monOf (((cnt (σ 0 p2) (σ 1 p2)))))) 7 p1 (((lenOf (((cnt (σ 0 p2) (σ 1 p2)))))))) 7 p1)) hx hb hr (fun t ht hW => ⟨⟨⟨congrArg (fun z : Int => Outcome.returned (some (Value.int (iZ z)))) (show ((sU (sU (sU σ 5 p1 (yearOf (((cnt (σ 0 p2) (σ 1 p2)))))) 6 p1 (monOf (((cnt (σ 0 p2) (σ 1 p2)))))) 7 p1 (((lenOf (((cnt (σ 0 p2) (σ 1 p2)))))))) 7 p1) = (mlen (leap (σ 0 p2)) (σ 1 p2)) from by have e1 := yearOf_cnt (y := σ 0 p2) (m := σ 1 p2) (by omega); have e2 := monOf_cnt (y := σ 0 p2) (m := σ 1 p2) (by omega); have e3 := lenOf_cnt (y := σ 0 p2) (m := σ 1 p2) (by omega); simp only [sU]; simp; rw [e3]), gX_cast ⟨tb, tn, tm, htn, hfit, htm, by rw [ht]; exact hP⟩ (show (sU (sU (sU σ 5 p1 (yearOf (((cnt (σ 0 p2) (σ 1 p2)))))) 6 p1 (monOf (((cnt (σ 0 p2) (σ 1 p2)))))) 7 p1 (((lenOf (((cnt (σ 0 p2) (σ 1 p2)))))))) = (setD σ p1 (σ 0 p2) (σ 1 p2) (mlen (leap (σ 0 p2)) (σ 1 p2))) from by have e1 := yearOf_cnt (y := σ 0 p2) (m := σ 1 p2) (by omega); have e2 := monOf_cnt (y := σ 0 p2) (m := σ 1 p2) (by omega); have e3 := lenOf_cnt (y := σ 0 p2) (m := σ 1 p2) (by omega); rw [e1, e2, e3]; rfl)⟩, hS.F ht⟩, ex2_0 (by (simp only [inb, noThing_iff, noThing_niff, Bool.not_eq_true', Bool.not_eq_false', Bool.or_eq_true, Bool.or_eq_false_iff, decide_eq_true_eq, decide_eq_false_iff_not] <;> omega)) (by rfl)⟩) hS.2.2 dX1_dayEnd_34

theorem mop_ok {y p : Int} (h : 1 ≤ p ∧ p ≤ ylen y) : (1 ≤ mop (leap y) p ∧ mop (leap y) p ≤ 12) ∧ 1 ≤ p - ahead (leap y) (mop (leap y) p) ∧ p - ahead (leap y) (mop (leap y) p) ≤ mlen (leap y) (mop (leap y) p) := by
  unfold ylen at h
  have hA : ∀ b : Bool, ahead b 1 = 0 ∧ ahead b 2 = 31 ∧ ahead b 3 = 59 + bZ b ∧ ahead b 4 = 90 + bZ b ∧ ahead b 5 = 120 + bZ b ∧ ahead b 6 = 151 + bZ b ∧ ahead b 7 = 181 + bZ b ∧ ahead b 8 = 212 + bZ b ∧ ahead b 9 = 243 + bZ b ∧ ahead b 10 = 273 + bZ b ∧ ahead b 11 = 304 + bZ b ∧ ahead b 12 = 334 + bZ b := by decide
  obtain ⟨a1, a2, a3, a4, a5, a6, a7, a8, a9, a10, a11, a12⟩ := hA (leap y)
  have hb : leap y = true ∧ bZ (leap y) = 1 ∨ leap y = false ∧ bZ (leap y) = 0 := by cases leap y <;> simp [bZ]
  generalize leap y = b at *
  unfold mop
  rcases hb with ⟨rfl, h2⟩ | ⟨rfl, h2⟩
  · simp only [if_true] at h
    (repeat' split) <;> simp only [mlen, a1, a2, a3, a4, a5, a6, a7, a8, a9, a10, a11, a12, h2] at * <;> simp <;> omega
  · simp at h
    (repeat' split) <;> simp only [mlen, a1, a2, a3, a4, a5, a6, a7, a8, a9, a10, a11, a12, h2] at * <;> simp <;> omega
abbrev ww_X1_dayInYear : List Cond := .code yX1_dayInYear cX1_dayInYear 7 (some .int) :: gT
set_option maxHeartbeats 4000000 in
set_option maxRecDepth 100000 in
theorem c_X1_dayInYear (l : Launch) (hst : l.stackTraces = false) (dC : Nat → ClassId) (dI : Nat → Nat → Nat) (dA : Nat → ClassId) (k : Nat → Nat) (q : Nat → Nat) (σ : Nat → Nat → Int) (H0 : Heap) (hG : gX dC dI dA q σ H0) (hOK : kOK σ) (hq : kQI q k) (z1 : Int) (z2 : Int) (pl : Int) (rz1 : -2147483648 ≤ z1 ∧ z1 < 2147483648) (rz2 : -2147483648 ≤ z2 ∧ z2 < 2147483648) (rpl : -2147483648 ≤ pl ∧ pl < 2147483648) : vx_Met l yX1_dayInYear ww_X1_dayInYear ({ frames := 9, cells := 3, slots := 18, locals := 322 }) (va_Pc [.ref (q 0), .int (iZ z1), .int (iZ z2), .int (iZ pl)] (fun U => U.heap = H0 ∧ kM dC dI dA k U)) (kQ2x (ex2 (!inb z1 0 3 || !inb z2 0 3) (!inb pl 1 366) = 0) (some (.int (iZ (if pl ≤ ylen (σ 2 (z2.toNat)) then mop (leap (σ 2 (z2.toNat))) pl else -9)))) (gX dC dI dA q (if pl ≤ ylen (σ 2 (z2.toNat)) then setD σ (z1.toNat) (σ 2 (z2.toNat)) (mop (leap (σ 2 (z2.toNat))) pl) (pl - ahead (leap (σ 2 (z2.toNat))) (mop (leap (σ 2 (z2.toNat))) pl)) else σ)) (kA q H0.size)) (kXC (fun E => (ex2 (!inb z1 0 3 || !inb z2 0 3) (!inb pl 1 366) = 1 ∧ E = "java/lang/IndexOutOfBoundsException") ∨ (ex2 (!inb z1 0 3 || !inb z2 0 3) (!inb pl 1 366) = 2 ∧ E = "java/lang/IllegalArgumentException"))) 3 18 (kA q H0.size) := by
  refine vx_ofW (cc := cX1_dayInYear) (maxL := 7) (ret := (some .int)) (by decide) rfl ?_
  intro p e s m args below meth c s₁ B hml hno hv
  obtain ⟨rfl, hH, hM⟩ := hv
  subst hH
  have hB := hM.2.1
  obtain ⟨tb, tn, tm, htn, hfit, htm, hP⟩ := hG
  have hS : va_S (kA q s.heap.size) s.heap s.heap [] := va_S.rf
  have hx := B.exec
  have hb := B.bytes
  have hr := B.returns
  have hts := atoms_spec (ws := ww_X1_dayInYear) B.pre
  have hown : s.vm.findClass RX1 = some m.cls := findClass_of_methodNamed B.named
  have hlocks := B.notSynchronized
  have hl := lv_entry ([.ref (q 0), .int (iZ z1), .int (iZ z2), .int (iZ pl)]) (n := 7) (Nat.le_of_ble_eq_true rfl)
  rw [lg_entry_eq]
  generalize (lg_sl ([.ref (q 0), .int (iZ z1), .int (iZ z2), .int (iZ pl)]) ++ List.replicate (7 - (lg_sl ([.ref (q 0), .int (iZ z1), .int (iZ z2), .int (iZ pl)])).length) Slot.unset).toArray = ls at hl ⊢
  have hl : lv_has ls 7 [(0, .ref (q 0)), (1, .int (iZ z1)), (2, .int (iZ z2)), (3, .int (iZ pl))] := hl
  refine lv_iload_n hx hb dX1_dayInYear_0 rfl (lv_at hl 1 rfl) ?_
  refine kcxo (fun _ q => q) (vx_runS (As := [.int (iZ z1)]) (rest := []) ⟨hx, hb, hml, hown, hts⟩ (c_X1_needPlace l hst k _ (z1) (by first | omega | (have e6 := ylen_rng (σ 2 p2); omega) | (have e4 := mop_ok (y := σ 2 p2) (p := pl) (by omega); have e5 := ahead_rng (leap (σ 2 p2)) (m := mop (leap (σ 2 p2)) pl) (by omega); omega))) (va_cwS 1 hts (kg_S mw224 mw225 mw42 rfl mw226) rfl rfl rfl hdS_X1_needPlace ⟨Nat.le_of_ble_eq_true rfl, Nat.le_of_ble_eq_true rfl⟩) ⟨fun a U g mk q => ⟨q.1, q.2.1, kB_call q.2.2⟩, fun U hU hW => ⟨rfl, hU, kB_same hB hU hW⟩⟩ rfl rfl hl.1 rfl (lv_room (Nat.le_of_ble_eq_true rfl)) dX1_dayInYear_1 ⟨Nat.le_of_ble_eq_true rfl, Nat.le_of_ble_eq_true rfl⟩) hno hlocks (fun E h => Or.inl ⟨ex2_1 (by have h9 := h.2; (simp only [inb, noThing_iff, noThing_niff, Bool.not_eq_true', Bool.not_eq_false', Bool.or_eq_true, Bool.or_eq_false_iff, decide_eq_true_eq, decide_eq_false_iff_not] <;> omega)), h.1⟩) (Nat.le_of_ble_eq_true rfl) (Nat.le_of_ble_eq_true rfl) (fun g_1 => ?_)
  have g_1 : 0 ≤ (z1) ∧ (z1) ≤ 3 := g_1
  obtain ⟨p1, hp1, rfl⟩ : ∃ p1 : Nat, p1 < 4 ∧ z1 = (p1 : Int) := ⟨z1.toNat, by omega, by omega⟩
  have o_p1 := kOKr hOK hp1
  refine lv_iload_n hx hb dX1_dayInYear_4 rfl (lv_at hl 2 rfl) ?_
  refine kcxo (fun _ q => q) (vx_runS (As := [.int (iZ z2)]) (rest := []) ⟨hx, hb, hml, hown, hts⟩ (c_X1_needPlace l hst k _ (z2) (by first | omega | (have e6 := ylen_rng (σ 2 p2); omega) | (have e4 := mop_ok (y := σ 2 p2) (p := pl) (by omega); have e5 := ahead_rng (leap (σ 2 p2)) (m := mop (leap (σ 2 p2)) pl) (by omega); omega))) (va_cwS 1 hts (kg_S mw224 mw225 mw42 rfl mw226) rfl rfl rfl hdS_X1_needPlace ⟨Nat.le_of_ble_eq_true rfl, Nat.le_of_ble_eq_true rfl⟩) ⟨fun a U g mk q => ⟨q.1, q.2.1, kB_call q.2.2⟩, fun U hU hW => ⟨rfl, hU, kB_same hB hU hW⟩⟩ rfl rfl hl.1 rfl (lv_room (Nat.le_of_ble_eq_true rfl)) dX1_dayInYear_5 ⟨Nat.le_of_ble_eq_true rfl, Nat.le_of_ble_eq_true rfl⟩) hno hlocks (fun E h => Or.inl ⟨ex2_1 (by have h9 := h.2; (simp only [inb, noThing_iff, noThing_niff, Bool.not_eq_true', Bool.not_eq_false', Bool.or_eq_true, Bool.or_eq_false_iff, decide_eq_true_eq, decide_eq_false_iff_not] <;> omega)), h.1⟩) (Nat.le_of_ble_eq_true rfl) (Nat.le_of_ble_eq_true rfl) (fun g_2 => ?_)
  have g_2 : 0 ≤ (z2) ∧ (z2) ≤ 3 := g_2
  obtain ⟨p2, hp2, rfl⟩ : ∃ p2 : Nat, p2 < 4 ∧ z2 = (p2 : Int) := ⟨z2.toNat, by omega, by omega⟩
  have o_p2 := kOKr hOK hp2
  refine lv_iload_n hx hb dX1_dayInYear_8 rfl (lv_at hl 3 rfl) ?_
  refine lv_iconst (v := iZ 1) hx hb dX1_dayInYear_9 rfl ?_
  refine lv_sipush (v := iZ 366) hx hb dX1_dayInYear_10 rfl ?_
  refine kcxo (fun _ q => q) (vx_runS (As := [.int (iZ pl), .int (iZ 1), .int (iZ 366)]) (rest := []) ⟨hx, hb, hml, hown, hts⟩ (c_X1_needWithin l hst k _ (pl) (1) (366) (by first | omega | (have e6 := ylen_rng (σ 2 p2); omega) | (have e4 := mop_ok (y := σ 2 p2) (p := pl) (by omega); have e5 := ahead_rng (leap (σ 2 p2)) (m := mop (leap (σ 2 p2)) pl) (by omega); omega)) (by first | omega | (have e6 := ylen_rng (σ 2 p2); omega) | (have e4 := mop_ok (y := σ 2 p2) (p := pl) (by omega); have e5 := ahead_rng (leap (σ 2 p2)) (m := mop (leap (σ 2 p2)) pl) (by omega); omega)) (by first | omega | (have e6 := ylen_rng (σ 2 p2); omega) | (have e4 := mop_ok (y := σ 2 p2) (p := pl) (by omega); have e5 := ahead_rng (leap (σ 2 p2)) (m := mop (leap (σ 2 p2)) pl) (by omega); omega))) (va_cwS 3 hts (kg_S mw228 mw229 mw42 rfl mw230) rfl rfl rfl hdS_X1_needWithin ⟨Nat.le_of_ble_eq_true rfl, Nat.le_of_ble_eq_true rfl⟩) ⟨fun a U g mk q => ⟨q.1, q.2.1, kB_call q.2.2⟩, fun U hU hW => ⟨rfl, hU, kB_same hB hU hW⟩⟩ rfl rfl hl.1 rfl (lv_room (Nat.le_of_ble_eq_true rfl)) dX1_dayInYear_13 ⟨Nat.le_of_ble_eq_true rfl, Nat.le_of_ble_eq_true rfl⟩) hno hlocks (fun E h => Or.inr ⟨ex2_2 (by (simp only [inb, noThing_iff, noThing_niff, Bool.not_eq_true', Bool.not_eq_false', Bool.or_eq_true, Bool.or_eq_false_iff, decide_eq_true_eq, decide_eq_false_iff_not] <;> omega)) (by have h9 := h.2; (simp only [inb, noThing_iff, noThing_niff, Bool.not_eq_true', Bool.not_eq_false', Bool.or_eq_true, Bool.or_eq_false_iff, decide_eq_true_eq, decide_eq_false_iff_not] <;> omega)), h.1⟩) (Nat.le_of_ble_eq_true rfl) (Nat.le_of_ble_eq_true rfl) (fun g_3 => ?_)
  have g_3 : (1) ≤ (pl) ∧ (pl) ≤ (366) := g_3
  refine lv_aload_n hx hb dX1_dayInYear_16 rfl (lv_at hl 0 rfl) ?_
  refine va_get (D := (dC, dI)) (ci := 4) (v := .ref (q 2)) (C := RX1) (T := TX1) (N := 8) hx hb hts (fun w h => List.mem_cons_of_mem _ (gF_0_in h)) hown hM.1 hP 0 rfl rfl 1 (by decide) (hts _ (List.mem_cons_of_mem _ mw98)) (fun _ h9 => h9) rfl dX1_dayInYear_17 ?_
  refine lv_iload_n hx hb dX1_dayInYear_20 rfl (lv_at hl 2 rfl) ?_
  refine kz_iald (v := σ 2 p2) hx hb hM.1 hP 2 0 rfl rfl (by omega) (by decide) rfl dX1_dayInYear_21 ?_
  refine lv_istore (lv' := [(4, .int (iZ (σ 2 p2))), (0, .ref (q 0)), (1, .int (iZ ((p1 : Nat) : Int))), (2, .int (iZ ((p2 : Nat) : Int))), (3, .int (iZ pl))]) hx hb dX1_dayInYear_22 hl (by decide) rfl (fun ls hl => ?_)
  refine lv_iload_n hx hb dX1_dayInYear_24 rfl (lv_at hl 4 rfl) ?_
  refine lv_iload hx hb dX1_dayInYear_25 (lv_at hl 0 rfl) ?_
  refine kz_i2l hx hb (by first | omega | (have e6 := ylen_rng (σ 2 p2); omega) | (have e4 := mop_ok (y := σ 2 p2) (p := pl) (by omega); have e5 := ahead_rng (leap (σ 2 p2)) (m := mop (leap (σ 2 p2)) pl) (by omega); omega)) dX1_dayInYear_27 ?_
  refine kc0 (fun _ q => q) (va_runS (As := [.long (lZ ((σ 2 p2)))]) (rest := [.int (iZ pl)]) ⟨hx, hb, hml, hown, hts⟩ (c_X0_yearLength l _ (((σ 2 p2))) (by first | omega | (have e6 := ylen_rng (σ 2 p2); omega) | (have e4 := mop_ok (y := σ 2 p2) (p := pl) (by omega); have e5 := ahead_rng (leap (σ 2 p2)) (m := mop (leap (σ 2 p2)) pl) (by omega); omega))) (va_cwS 1 hts (kg_S mw182 mw183 mw51 rfl mw184) rfl rfl rfl hdS_X0_yearLength ⟨Nat.le_of_ble_eq_true rfl, Nat.le_of_ble_eq_true rfl⟩) ⟨fun a U g mk q => q, fun U hU hW => ⟨rfl, hU⟩⟩ rfl rfl hl.1 rfl (lv_room (Nat.le_of_ble_eq_true rfl)) dX1_dayInYear_28 ⟨Nat.le_of_ble_eq_true rfl, Nat.le_of_ble_eq_true rfl⟩) ?_
  refine kz_icmp_le (tgt := 37) hx hb (by first | omega | (have e6 := ylen_rng (σ 2 p2); omega) | (have e4 := mop_ok (y := σ 2 p2) (p := pl) (by omega); have e5 := ahead_rng (leap (σ 2 p2)) (m := mop (leap (σ 2 p2)) pl) (by omega); omega)) (by first | omega | (have e6 := ylen_rng (σ 2 p2); omega) | (have e4 := mop_ok (y := σ 2 p2) (p := pl) (by omega); have e5 := ahead_rng (leap (σ 2 p2)) (m := mop (leap (σ 2 p2)) pl) (by omega); omega)) dX1_dayInYear_31 (by decide) (fun c_4 => ?_) (fun c_4 => ?_)
  · refine lv_iload hx hb dX1_dayInYear_37 (lv_at hl 0 rfl) ?_
    refine kz_i2l hx hb (by first | omega | (have e6 := ylen_rng (σ 2 p2); omega) | (have e4 := mop_ok (y := σ 2 p2) (p := pl) (by omega); have e5 := ahead_rng (leap (σ 2 p2)) (m := mop (leap (σ 2 p2)) pl) (by omega); omega)) dX1_dayInYear_39 ?_
    refine kc0 (fun _ q => q) (va_runS (As := [.long (lZ ((σ 2 p2)))]) (rest := []) ⟨hx, hb, hml, hown, hts⟩ (c_X0_isLeapNumber l _ (((σ 2 p2))) (by first | omega | (have e6 := ylen_rng (σ 2 p2); omega) | (have e4 := mop_ok (y := σ 2 p2) (p := pl) (by omega); have e5 := ahead_rng (leap (σ 2 p2)) (m := mop (leap (σ 2 p2)) pl) (by omega); omega))) (va_cwS 1 hts (kg_S mw109 mw110 mw51 rfl mw111) rfl rfl rfl hdS_X0_isLeapNumber ⟨Nat.le_of_ble_eq_true rfl, Nat.le_of_ble_eq_true rfl⟩) ⟨fun a U g mk q => q, fun U hU hW => ⟨rfl, hU⟩⟩ rfl rfl hl.1 rfl (lv_room (Nat.le_of_ble_eq_true rfl)) dX1_dayInYear_40 ⟨Nat.le_of_ble_eq_true rfl, Nat.le_of_ble_eq_true rfl⟩) ?_
    refine lv_istore (lv' := [(5, .int (iZ (bZ (leap ((((σ 2 p2)))))))), (4, .int (iZ (σ 2 p2))), (0, .ref (q 0)), (1, .int (iZ ((p1 : Nat) : Int))), (2, .int (iZ ((p2 : Nat) : Int))), (3, .int (iZ pl))]) hx hb dX1_dayInYear_43 hl (by decide) rfl (fun ls hl => ?_)
    refine lv_iload_n hx hb dX1_dayInYear_45 rfl (lv_at hl 5 rfl) ?_
    refine lv_iload hx hb dX1_dayInYear_46 (lv_at hl 0 rfl) ?_
    refine kc0 (fun _ q => q) (va_runS (As := [.int (iZ pl), .int (iZ (bZ (leap ((((σ 2 p2)))))))]) (rest := []) ⟨hx, hb, hml, hown, hts⟩ (c_X0_monthOfPlace l _ (pl) (leap ((((σ 2 p2))))) (by first | omega | (have e6 := ylen_rng (σ 2 p2); omega) | (have e4 := mop_ok (y := σ 2 p2) (p := pl) (by omega); have e5 := ahead_rng (leap (σ 2 p2)) (m := mop (leap (σ 2 p2)) pl) (by omega); omega))) (va_cwS 2 hts (kg_S mw853 mw854 mw51 rfl mw855) rfl rfl rfl hdS_X0_monthOfPlace ⟨Nat.le_of_ble_eq_true rfl, Nat.le_of_ble_eq_true rfl⟩) ⟨fun a U g mk q => q, fun U hU hW => ⟨rfl, hU⟩⟩ rfl rfl hl.1 rfl (lv_room (Nat.le_of_ble_eq_true rfl)) dX1_dayInYear_48 ⟨Nat.le_of_ble_eq_true rfl, Nat.le_of_ble_eq_true rfl⟩) ?_
    refine lv_istore (lv' := [(6, .int (iZ (mop ((leap ((((σ 2 p2)))))) ((pl))))), (5, .int (iZ (bZ (leap ((((σ 2 p2)))))))), (4, .int (iZ (σ 2 p2))), (0, .ref (q 0)), (1, .int (iZ ((p1 : Nat) : Int))), (2, .int (iZ ((p2 : Nat) : Int))), (3, .int (iZ pl))]) hx hb dX1_dayInYear_51 hl (by decide) rfl (fun ls hl => ?_)
    refine lv_aload_n hx hb dX1_dayInYear_53 rfl (lv_at hl 3 rfl) ?_
    refine lv_iload_n hx hb dX1_dayInYear_54 rfl (lv_at hl 4 rfl) ?_
    refine lv_iload hx hb dX1_dayInYear_55 (lv_at hl 2 rfl) ?_
    refine lv_iload hx hb dX1_dayInYear_57 (lv_at hl 0 rfl) ?_
    refine kc0 (fun _ q => q) (va_runS (As := [.int (iZ (σ 2 p2)), .int (iZ (mop ((leap ((((σ 2 p2)))))) ((pl))))]) (rest := [.int (iZ ((p1 : Nat) : Int)), .ref (q 0)]) ⟨hx, hb, hml, hown, hts⟩ (c_X0_countOf l _ ((σ 2 p2)) ((mop ((leap ((((σ 2 p2)))))) ((pl)))) (by first | omega | (have e6 := ylen_rng (σ 2 p2); omega) | (have e4 := mop_ok (y := σ 2 p2) (p := pl) (by omega); have e5 := ahead_rng (leap (σ 2 p2)) (m := mop (leap (σ 2 p2)) pl) (by omega); omega)) (by first | omega | (have e6 := ylen_rng (σ 2 p2); omega) | (have e4 := mop_ok (y := σ 2 p2) (p := pl) (by omega); have e5 := ahead_rng (leap (σ 2 p2)) (m := mop (leap (σ 2 p2)) pl) (by omega); omega))) (va_cwS 2 hts (kg_S mw154 mw155 mw51 rfl mw156) rfl rfl rfl hdS_X0_countOf ⟨Nat.le_of_ble_eq_true rfl, Nat.le_of_ble_eq_true rfl⟩) ⟨fun a U g mk q => q, fun U hU hW => ⟨rfl, hU⟩⟩ rfl rfl hl.1 rfl (lv_room (Nat.le_of_ble_eq_true rfl)) dX1_dayInYear_59 ⟨Nat.le_of_ble_eq_true rfl, Nat.le_of_ble_eq_true rfl⟩) ?_
    refine lv_iload_n hx hb dX1_dayInYear_62 rfl (lv_at hl 6 rfl) ?_
    refine lv_iload hx hb dX1_dayInYear_63 (lv_at hl 0 rfl) ?_
    refine lv_iload hx hb dX1_dayInYear_65 (lv_at hl 1 rfl) ?_
    refine kc0 (fun _ q => q) (va_runS (As := [.int (iZ (mop ((leap ((((σ 2 p2)))))) ((pl)))), .int (iZ (bZ (leap ((((σ 2 p2)))))))]) (rest := [.int (iZ pl), .long (lZ (12 * (((σ 2 p2))) + (((mop ((leap ((((σ 2 p2)))))) ((pl))))) - 1)), .int (iZ ((p1 : Nat) : Int)), .ref (q 0)]) ⟨hx, hb, hml, hown, hts⟩ (c_X0_daysAheadOf l _ ((mop ((leap ((((σ 2 p2)))))) ((pl)))) (leap ((((σ 2 p2))))) (by first | omega | (have e6 := ylen_rng (σ 2 p2); omega) | (have e4 := mop_ok (y := σ 2 p2) (p := pl) (by omega); have e5 := ahead_rng (leap (σ 2 p2)) (m := mop (leap (σ 2 p2)) pl) (by omega); omega))) (va_cwS 2 hts (kg_S mw856 mw169 mw51 rfl mw170) rfl rfl rfl hdS_X0_daysAheadOf ⟨Nat.le_of_ble_eq_true rfl, Nat.le_of_ble_eq_true rfl⟩) ⟨fun a U g mk q => q, fun U hU hW => ⟨rfl, hU⟩⟩ rfl rfl hl.1 rfl (lv_room (Nat.le_of_ble_eq_true rfl)) dX1_dayInYear_67 ⟨Nat.le_of_ble_eq_true rfl, Nat.le_of_ble_eq_true rfl⟩) ?_
    refine kz_isub hx hb dX1_dayInYear_70 ?_
    refine kc2 (va_runV (As := [.int (iZ ((p1 : Nat) : Int)), .long (lZ (12 * (((σ 2 p2))) + (((mop ((leap ((((σ 2 p2)))))) ((pl))))) - 1)), .int (iZ (pl - (ahead ((leap ((((σ 2 p2)))))) (((mop ((leap ((((σ 2 p2)))))) ((pl))))))))]) (rest := []) ⟨hx, hb, hml, hown, hts⟩ (c_X1_putDay l dC dI dA k q (σ) _ ⟨tb, tn, tm, htn, hfit, htm, hP⟩ (hOK) hq p1 ((12 * (((σ 2 p2))) + (((mop ((leap ((((σ 2 p2)))))) ((pl))))) - 1)) ((pl - (ahead ((leap ((((σ 2 p2)))))) (((mop ((leap ((((σ 2 p2)))))) ((pl)))))))) hp1) (cwV 3 hts (kg_V mw836 mw837 mw24 mw42 rfl mw838) rfl rfl rfl hdV_X1_putDay ⟨Nat.le_of_ble_eq_true rfl, Nat.le_of_ble_eq_true rfl⟩) ⟨fun a U g mk q => ⟨q.1, q.2.1, kM_call q.2.2⟩, va_recv hM.1 hP (ci := 4) (q0 := 0) rfl rfl, fun U hU hW => ⟨rfl, hU, kM_kept hM hS (kA_N hq hM.2.1.1) hU hW⟩⟩ rfl rfl hl.1 rfl (lv_room (Nat.le_of_ble_eq_true rfl)) dX1_dayInYear_71 ⟨Nat.le_of_ble_eq_true rfl, Nat.le_of_ble_eq_true rfl⟩) hS (fun a _ h => kA_up hS.1 a h) (fun a h => kA_up hS.1 a h) (fun H locs hG hz9 hk9 hS => ?_)
    obtain ⟨tb, tn, tm, htn, hfit, htm, hP⟩ := hG
    refine lv_iload hx hb dX1_dayInYear_74 (lv_at hl 0 rfl) ?_
    refine W.widen (k := 3) (n := 18) (Nat.le_of_ble_eq_true rfl) (Nat.le_of_ble_eq_true rfl) ?_
    refine vx_ret ?_
    exact W.iret (v := iZ (mop ((leap ((((σ 2 p2)))))) ((pl)))) hx hb hr (fun t ht hW => ⟨⟨⟨congrArg (fun z : Int => Outcome.returned (some (Value.int (iZ z)))) (show (mop ((leap ((((σ 2 p2)))))) ((pl))) = (if pl ≤ ylen (σ 2 p2) then mop (leap (σ 2 p2)) pl else -9) from by rw [if_pos (by omega)]), gX_cast ⟨tb, tn, tm, htn, hfit, htm, by rw [ht]; exact hP⟩ (show (sU (sU (sU σ 5 p1 (yearOf (((12 * (((σ 2 p2))) + (((mop ((leap ((((σ 2 p2)))))) ((pl))))) - 1))))) 6 p1 (monOf (((12 * (((σ 2 p2))) + (((mop ((leap ((((σ 2 p2)))))) ((pl))))) - 1))))) 7 p1 (((pl - (ahead ((leap ((((σ 2 p2)))))) (((mop ((leap ((((σ 2 p2)))))) ((pl)))))))))) = (if pl ≤ ylen (σ 2 p2) then setD σ p1 (σ 2 p2) (mop (leap (σ 2 p2)) pl) (pl - ahead (leap (σ 2 p2)) (mop (leap (σ 2 p2)) pl)) else σ) from by have e4 := mop_ok (y := σ 2 p2) (p := pl) (by omega); have e5 := ahead_rng (leap (σ 2 p2)) (m := mop (leap (σ 2 p2)) pl) (by omega); rw [if_pos (by omega), show yearOf (12 * σ 2 p2 + mop (leap (σ 2 p2)) pl - 1) = σ 2 p2 from yearOf_cnt (by omega), show monOf (12 * σ 2 p2 + mop (leap (σ 2 p2)) pl - 1) = mop (leap (σ 2 p2)) pl from monOf_cnt (by omega)]; rfl)⟩, hS.F ht⟩, ex2_0 (by (simp only [inb, noThing_iff, noThing_niff, Bool.not_eq_true', Bool.not_eq_false', Bool.or_eq_true, Bool.or_eq_false_iff, decide_eq_true_eq, decide_eq_false_iff_not] <;> omega)) (by (simp only [inb, noThing_iff, noThing_niff, Bool.not_eq_true', Bool.not_eq_false', Bool.or_eq_true, Bool.or_eq_false_iff, decide_eq_true_eq, decide_eq_false_iff_not] <;> omega))⟩) hS.2.2 dX1_dayInYear_76
  · refine lv_bipush (v := iZ (-9)) hx hb dX1_dayInYear_34 rfl ?_
    refine W.widen (k := 3) (n := 18) (Nat.le_of_ble_eq_true rfl) (Nat.le_of_ble_eq_true rfl) ?_
    refine vx_ret ?_
    exact W.iret (v := iZ ((-9))) hx hb hr (fun t ht hW => ⟨⟨⟨congrArg (fun z : Int => Outcome.returned (some (Value.int (iZ z)))) (show ((-9)) = (if pl ≤ ylen (σ 2 p2) then mop (leap (σ 2 p2)) pl else -9) from by rw [if_neg (by omega)]), gX_cast ⟨tb, tn, tm, htn, hfit, htm, by rw [ht]; exact hP⟩ (show (σ) = (if pl ≤ ylen (σ 2 p2) then setD σ p1 (σ 2 p2) (mop (leap (σ 2 p2)) pl) (pl - ahead (leap (σ 2 p2)) (mop (leap (σ 2 p2)) pl)) else σ) from by rw [if_neg (by omega)])⟩, hS.F ht⟩, ex2_0 (by (simp only [inb, noThing_iff, noThing_niff, Bool.not_eq_true', Bool.not_eq_false', Bool.or_eq_true, Bool.or_eq_false_iff, decide_eq_true_eq, decide_eq_false_iff_not] <;> omega)) (by (simp only [inb, noThing_iff, noThing_niff, Bool.not_eq_true', Bool.not_eq_false', Bool.or_eq_true, Bool.or_eq_false_iff, decide_eq_true_eq, decide_eq_false_iff_not] <;> omega))⟩) hS.2.2 dX1_dayInYear_36

abbrev ww_X1_dayOfFeast : List Cond := .code yX1_dayOfFeast cX1_dayOfFeast 4 (some .int) :: gT
set_option maxHeartbeats 4000000 in
set_option maxRecDepth 100000 in
theorem c_X1_dayOfFeast (l : Launch) (hst : l.stackTraces = false) (dC : Nat → ClassId) (dI : Nat → Nat → Nat) (dA : Nat → ClassId) (k : Nat → Nat) (q : Nat → Nat) (σ : Nat → Nat → Int) (H0 : Heap) (hG : gX dC dI dA q σ H0) (hOK : kOK σ) (hq : kQI q k) (z1 : Int) (z2 : Int) (yy : Int) (rz1 : -2147483648 ≤ z1 ∧ z1 < 2147483648) (rz2 : -2147483648 ≤ z2 ∧ z2 < 2147483648) (ryy : -2147483648 ≤ yy ∧ yy < 2147483648) : vx_Met l yX1_dayOfFeast ww_X1_dayOfFeast ({ frames := 10, cells := 3, slots := 18, locals := 342 }) (va_Pc [.ref (q 0), .int (iZ z1), .int (iZ z2), .int (iZ yy)] (fun U => U.heap = H0 ∧ kM dC dI dA k U)) (kQ2x (ex2 (!inb z1 0 3 || !inb z2 0 3) (!inb yy (-999999999) 999999999) = 0) (some (.int (iZ (1 + (dnum yy (σ 3 (z2.toNat)) (dayIn σ (z2.toNat) yy) + 3) % 7)))) (gX dC dI dA q (setD σ (z1.toNat) yy (σ 3 (z2.toNat)) (dayIn σ (z2.toNat) yy))) (kA q H0.size)) (kXC (fun E => (ex2 (!inb z1 0 3 || !inb z2 0 3) (!inb yy (-999999999) 999999999) = 1 ∧ E = "java/lang/IndexOutOfBoundsException") ∨ (ex2 (!inb z1 0 3 || !inb z2 0 3) (!inb yy (-999999999) 999999999) = 2 ∧ E = "java/lang/IllegalArgumentException"))) 3 18 (kA q H0.size) := by
  refine vx_ofW (cc := cX1_dayOfFeast) (maxL := 4) (ret := (some .int)) (by decide) rfl ?_
  intro p e s m args below meth c s₁ B hml hno hv
  obtain ⟨rfl, hH, hM⟩ := hv
  subst hH
  have hB := hM.2.1
  obtain ⟨tb, tn, tm, htn, hfit, htm, hP⟩ := hG
  have hS : va_S (kA q s.heap.size) s.heap s.heap [] := va_S.rf
  have hx := B.exec
  have hb := B.bytes
  have hr := B.returns
  have hts := atoms_spec (ws := ww_X1_dayOfFeast) B.pre
  have hown : s.vm.findClass RX1 = some m.cls := findClass_of_methodNamed B.named
  have hlocks := B.notSynchronized
  have hl := lv_entry ([.ref (q 0), .int (iZ z1), .int (iZ z2), .int (iZ yy)]) (n := 4) (Nat.le_of_ble_eq_true rfl)
  rw [lg_entry_eq]
  generalize (lg_sl ([.ref (q 0), .int (iZ z1), .int (iZ z2), .int (iZ yy)]) ++ List.replicate (4 - (lg_sl ([.ref (q 0), .int (iZ z1), .int (iZ z2), .int (iZ yy)])).length) Slot.unset).toArray = ls at hl ⊢
  have hl : lv_has ls 4 [(0, .ref (q 0)), (1, .int (iZ z1)), (2, .int (iZ z2)), (3, .int (iZ yy))] := hl
  refine lv_iload_n hx hb dX1_dayOfFeast_0 rfl (lv_at hl 1 rfl) ?_
  refine kcxo (fun _ q => q) (vx_runS (As := [.int (iZ z1)]) (rest := []) ⟨hx, hb, hml, hown, hts⟩ (c_X1_needPlace l hst k _ (z1) (by first | omega | (simp only [sU]; simp; have e7 := dayIn_ok hOK hp2 yy; have := dnum_rng (y := yy) (m := σ 3 p2) (d := dayIn σ p2 yy) (by omega) (by omega) (by omega); omega))) (va_cwS 1 hts (kg_S mw224 mw225 mw42 rfl mw226) rfl rfl rfl hdS_X1_needPlace ⟨Nat.le_of_ble_eq_true rfl, Nat.le_of_ble_eq_true rfl⟩) ⟨fun a U g mk q => ⟨q.1, q.2.1, kB_call q.2.2⟩, fun U hU hW => ⟨rfl, hU, kB_same hB hU hW⟩⟩ rfl rfl hl.1 rfl (lv_room (Nat.le_of_ble_eq_true rfl)) dX1_dayOfFeast_1 ⟨Nat.le_of_ble_eq_true rfl, Nat.le_of_ble_eq_true rfl⟩) hno hlocks (fun E h => Or.inl ⟨ex2_1 (by have h9 := h.2; (simp only [inb, noThing_iff, noThing_niff, Bool.not_eq_true', Bool.not_eq_false', Bool.or_eq_true, Bool.or_eq_false_iff, decide_eq_true_eq, decide_eq_false_iff_not] <;> omega)), h.1⟩) (Nat.le_of_ble_eq_true rfl) (Nat.le_of_ble_eq_true rfl) (fun g_1 => ?_)
  have g_1 : 0 ≤ (z1) ∧ (z1) ≤ 3 := g_1
  obtain ⟨p1, hp1, rfl⟩ : ∃ p1 : Nat, p1 < 4 ∧ z1 = (p1 : Int) := ⟨z1.toNat, by omega, by omega⟩
  have o_p1 := kOKr hOK hp1
  refine lv_iload_n hx hb dX1_dayOfFeast_4 rfl (lv_at hl 2 rfl) ?_
  refine kcxo (fun _ q => q) (vx_runS (As := [.int (iZ z2)]) (rest := []) ⟨hx, hb, hml, hown, hts⟩ (c_X1_needPlace l hst k _ (z2) (by first | omega | (simp only [sU]; simp; have e7 := dayIn_ok hOK hp2 yy; have := dnum_rng (y := yy) (m := σ 3 p2) (d := dayIn σ p2 yy) (by omega) (by omega) (by omega); omega))) (va_cwS 1 hts (kg_S mw224 mw225 mw42 rfl mw226) rfl rfl rfl hdS_X1_needPlace ⟨Nat.le_of_ble_eq_true rfl, Nat.le_of_ble_eq_true rfl⟩) ⟨fun a U g mk q => ⟨q.1, q.2.1, kB_call q.2.2⟩, fun U hU hW => ⟨rfl, hU, kB_same hB hU hW⟩⟩ rfl rfl hl.1 rfl (lv_room (Nat.le_of_ble_eq_true rfl)) dX1_dayOfFeast_5 ⟨Nat.le_of_ble_eq_true rfl, Nat.le_of_ble_eq_true rfl⟩) hno hlocks (fun E h => Or.inl ⟨ex2_1 (by have h9 := h.2; (simp only [inb, noThing_iff, noThing_niff, Bool.not_eq_true', Bool.not_eq_false', Bool.or_eq_true, Bool.or_eq_false_iff, decide_eq_true_eq, decide_eq_false_iff_not] <;> omega)), h.1⟩) (Nat.le_of_ble_eq_true rfl) (Nat.le_of_ble_eq_true rfl) (fun g_2 => ?_)
  have g_2 : 0 ≤ (z2) ∧ (z2) ≤ 3 := g_2
  obtain ⟨p2, hp2, rfl⟩ : ∃ p2 : Nat, p2 < 4 ∧ z2 = (p2 : Int) := ⟨z2.toNat, by omega, by omega⟩
  have o_p2 := kOKr hOK hp2
  refine lv_iload_n hx hb dX1_dayOfFeast_8 rfl (lv_at hl 3 rfl) ?_
  refine kcxo (fun _ q => q) (vx_runS (As := [.int (iZ yy)]) (rest := []) ⟨hx, hb, hml, hown, hts⟩ (c_X1_needYearNumber l hst k _ (yy) (by first | omega | (simp only [sU]; simp; have e7 := dayIn_ok hOK hp2 yy; have := dnum_rng (y := yy) (m := σ 3 p2) (d := dayIn σ p2 yy) (by omega) (by omega) (by omega); omega))) (va_cwS 1 hts (kg_S mw610 mw611 mw42 rfl mw612) rfl rfl rfl hdS_X1_needYearNumber ⟨Nat.le_of_ble_eq_true rfl, Nat.le_of_ble_eq_true rfl⟩) ⟨fun a U g mk q => ⟨q.1, q.2.1, kB_call q.2.2⟩, fun U hU hW => ⟨rfl, hU, kB_same hB hU hW⟩⟩ rfl rfl hl.1 rfl (lv_room (Nat.le_of_ble_eq_true rfl)) dX1_dayOfFeast_9 ⟨Nat.le_of_ble_eq_true rfl, Nat.le_of_ble_eq_true rfl⟩) hno hlocks (fun E h => Or.inr ⟨ex2_2 (by (simp only [inb, noThing_iff, noThing_niff, Bool.not_eq_true', Bool.not_eq_false', Bool.or_eq_true, Bool.or_eq_false_iff, decide_eq_true_eq, decide_eq_false_iff_not] <;> omega)) (by have h9 := h.2; (simp only [inb, noThing_iff, noThing_niff, Bool.not_eq_true', Bool.not_eq_false', Bool.or_eq_true, Bool.or_eq_false_iff, decide_eq_true_eq, decide_eq_false_iff_not] <;> omega)), h.1⟩) (Nat.le_of_ble_eq_true rfl) (Nat.le_of_ble_eq_true rfl) (fun g_3 => ?_)
  have g_3 : -999999999 ≤ (yy) ∧ (yy) ≤ 999999999 := g_3
  refine lv_aload_n hx hb dX1_dayOfFeast_12 rfl (lv_at hl 0 rfl) ?_
  refine lv_iload_n hx hb dX1_dayOfFeast_13 rfl (lv_at hl 1 rfl) ?_
  refine lv_iload_n hx hb dX1_dayOfFeast_14 rfl (lv_at hl 2 rfl) ?_
  refine lv_iload_n hx hb dX1_dayOfFeast_15 rfl (lv_at hl 3 rfl) ?_
  refine kc2 (va_runV (As := [.int (iZ ((p1 : Nat) : Int)), .int (iZ ((p2 : Nat) : Int)), .int (iZ yy)]) (rest := []) ⟨hx, hb, hml, hown, hts⟩ (c_X1_putDayOfFeast l dC dI dA k q (σ) _ ⟨tb, tn, tm, htn, hfit, htm, hP⟩ (hOK) hq p1 p2 (yy) hp1 hp2 (by first | omega | (simp only [sU]; simp; have e7 := dayIn_ok hOK hp2 yy; have := dnum_rng (y := yy) (m := σ 3 p2) (d := dayIn σ p2 yy) (by omega) (by omega) (by omega); omega))) (cwV 3 hts (kg_V mw864 mw865 mw25 mw42 rfl mw866) rfl rfl rfl hdV_X1_putDayOfFeast ⟨Nat.le_of_ble_eq_true rfl, Nat.le_of_ble_eq_true rfl⟩) ⟨fun a U g mk q => ⟨q.1, q.2.1, kM_call q.2.2⟩, va_recv hM.1 hP (ci := 4) (q0 := 0) rfl rfl, fun U hU hW => ⟨rfl, hU, kM_kept hM hS (kA_N hq hM.2.1.1) hU hW⟩⟩ rfl rfl hl.1 rfl (lv_room (Nat.le_of_ble_eq_true rfl)) dX1_dayOfFeast_16 ⟨Nat.le_of_ble_eq_true rfl, Nat.le_of_ble_eq_true rfl⟩) hS (fun a _ h => kA_up hS.1 a h) (fun a h => kA_up hS.1 a h) (fun H locs hG hz9 hk9 hS => ?_)
  obtain ⟨tb, tn, tm, htn, hfit, htm, hP⟩ := hG
  refine lv_aload_n hx hb dX1_dayOfFeast_19 rfl (lv_at hl 0 rfl) ?_
  refine lv_iload_n hx hb dX1_dayOfFeast_20 rfl (lv_at hl 1 rfl) ?_
  refine kc0 (fun _ q => q) (va_runV (As := [.int (iZ ((p1 : Nat) : Int))]) (rest := []) ⟨hx, hb, hml, hown, hts⟩ (c_X1_weekdayAt l dC dI dA k q (sU (sU (sU σ 5 p1 ((yy))) 6 p1 (σ 3 p2)) 7 p1 (dayIn σ p2 ((yy)))) _ ⟨tb, tn, tm, htn, hfit, htm, hP⟩ (by have e7 := dayIn_ok hOK hp2 yy; exact kOK_day hOK (by omega) (by omega) (by omega)) p1 (by first | omega | (simp only [sU]; simp; have e7 := dayIn_ok hOK hp2 yy; have := dnum_rng (y := yy) (m := σ 3 p2) (d := dayIn σ p2 yy) (by omega) (by omega) (by omega); omega))) (cwV 1 hts (kg_V mw552 mw553 mw12 mw42 rfl mw554) rfl rfl rfl hdV_X1_weekdayAt ⟨Nat.le_of_ble_eq_true rfl, Nat.le_of_ble_eq_true rfl⟩) ⟨fun a U g mk q => ⟨q.1, q.2.1, kM_call q.2.2⟩, va_recv hM.1 hP (ci := 4) (q0 := 0) rfl rfl, fun U hU hW => ⟨rfl, hU, kM_kept hM hS (kA_N hq hM.2.1.1) hU hW⟩⟩ rfl rfl hl.1 rfl (lv_room (Nat.le_of_ble_eq_true rfl)) dX1_dayOfFeast_21 ⟨Nat.le_of_ble_eq_true rfl, Nat.le_of_ble_eq_true rfl⟩) ?_
  refine W.widen (k := 3) (n := 18) (Nat.le_of_ble_eq_true rfl) (Nat.le_of_ble_eq_true rfl) ?_
  refine vx_ret ?_
  exact W.iret (v := iZ (1 + (dnum ((sU (sU (sU σ 5 p1 ((yy))) 6 p1 (σ 3 p2)) 7 p1 (dayIn σ p2 ((yy)))) 5 p1) ((sU (sU (sU σ 5 p1 ((yy))) 6 p1 (σ 3 p2)) 7 p1 (dayIn σ p2 ((yy)))) 6 p1) ((sU (sU (sU σ 5 p1 ((yy))) 6 p1 (σ 3 p2)) 7 p1 (dayIn σ p2 ((yy)))) 7 p1) + 3) % 7)) hx hb hr (fun t ht hW => ⟨⟨⟨congrArg (fun z : Int => Outcome.returned (some (Value.int (iZ z)))) (show (1 + (dnum ((sU (sU (sU σ 5 p1 ((yy))) 6 p1 (σ 3 p2)) 7 p1 (dayIn σ p2 ((yy)))) 5 p1) ((sU (sU (sU σ 5 p1 ((yy))) 6 p1 (σ 3 p2)) 7 p1 (dayIn σ p2 ((yy)))) 6 p1) ((sU (sU (sU σ 5 p1 ((yy))) 6 p1 (σ 3 p2)) 7 p1 (dayIn σ p2 ((yy)))) 7 p1) + 3) % 7) = (1 + (dnum yy (σ 3 p2) (dayIn σ p2 yy) + 3) % 7) from by simp only [sU]; simp), gX_cast ⟨tb, tn, tm, htn, hfit, htm, by rw [ht]; exact hP⟩ (show (sU (sU (sU σ 5 p1 ((yy))) 6 p1 (σ 3 p2)) 7 p1 (dayIn σ p2 ((yy)))) = (setD σ p1 yy (σ 3 p2) (dayIn σ p2 yy)) from by rfl)⟩, hS.F ht⟩, ex2_0 (by (simp only [inb, noThing_iff, noThing_niff, Bool.not_eq_true', Bool.not_eq_false', Bool.or_eq_true, Bool.or_eq_false_iff, decide_eq_true_eq, decide_eq_false_iff_not] <;> omega)) (by (simp only [inb, noThing_iff, noThing_niff, Bool.not_eq_true', Bool.not_eq_false', Bool.or_eq_true, Bool.or_eq_false_iff, decide_eq_true_eq, decide_eq_false_iff_not] <;> omega))⟩) hS.2.2 dX1_dayOfFeast_24

abbrev ww_X1_dayOfYear : List Cond := .code yX1_dayOfYear cX1_dayOfYear 4 (some .int) :: gT
set_option maxHeartbeats 4000000 in
set_option maxRecDepth 100000 in
theorem c_X1_dayOfYear (l : Launch) (hst : l.stackTraces = false) (dC : Nat → ClassId) (dI : Nat → Nat → Nat) (dA : Nat → ClassId) (k : Nat → Nat) (q : Nat → Nat) (σ : Nat → Nat → Int) (H0 : Heap) (hG : gX dC dI dA q σ H0) (hOK : kOK σ) (hq : kQI q k) (z1 : Int) (z2 : Int) (z3 : Int) (rz1 : -2147483648 ≤ z1 ∧ z1 < 2147483648) (rz2 : -2147483648 ≤ z2 ∧ z2 < 2147483648) (rz3 : -2147483648 ≤ z3 ∧ z3 < 2147483648) : vx_Met l yX1_dayOfYear ww_X1_dayOfYear ({ frames := 9, cells := 3, slots := 18, locals := 320 }) (va_Pc [.ref (q 0), .int (iZ z1), .int (iZ z2), .int (iZ z3)] (fun U => U.heap = H0 ∧ kM dC dI dA k U)) (kQ2x (ex2 ((!inb z1 0 3 || !inb z2 0 3) || !inb z3 0 3) (false) = 0) (some (.int (iZ (dayIn σ (z3.toNat) (σ 2 (z2.toNat)))))) (gX dC dI dA q (setD σ (z1.toNat) (σ 2 (z2.toNat)) (σ 3 (z3.toNat)) (dayIn σ (z3.toNat) (σ 2 (z2.toNat))))) (kA q H0.size)) (kXC (fun E => (ex2 ((!inb z1 0 3 || !inb z2 0 3) || !inb z3 0 3) (false) = 1 ∧ E = "java/lang/IndexOutOfBoundsException") ∨ (ex2 ((!inb z1 0 3 || !inb z2 0 3) || !inb z3 0 3) (false) = 2 ∧ E = "java/lang/IllegalArgumentException"))) 3 18 (kA q H0.size) := by
  refine vx_ofW (cc := cX1_dayOfYear) (maxL := 4) (ret := (some .int)) (by decide) rfl ?_
  intro p e s m args below meth c s₁ B hml hno hv
  obtain ⟨rfl, hH, hM⟩ := hv
  subst hH
  have hB := hM.2.1
  obtain ⟨tb, tn, tm, htn, hfit, htm, hP⟩ := hG
  have hS : va_S (kA q s.heap.size) s.heap s.heap [] := va_S.rf
  have hx := B.exec
  have hb := B.bytes
  have hr := B.returns
  have hts := atoms_spec (ws := ww_X1_dayOfYear) B.pre
  have hown : s.vm.findClass RX1 = some m.cls := findClass_of_methodNamed B.named
  have hlocks := B.notSynchronized
  have hl := lv_entry ([.ref (q 0), .int (iZ z1), .int (iZ z2), .int (iZ z3)]) (n := 4) (Nat.le_of_ble_eq_true rfl)
  rw [lg_entry_eq]
  generalize (lg_sl ([.ref (q 0), .int (iZ z1), .int (iZ z2), .int (iZ z3)]) ++ List.replicate (4 - (lg_sl ([.ref (q 0), .int (iZ z1), .int (iZ z2), .int (iZ z3)])).length) Slot.unset).toArray = ls at hl ⊢
  have hl : lv_has ls 4 [(0, .ref (q 0)), (1, .int (iZ z1)), (2, .int (iZ z2)), (3, .int (iZ z3))] := hl
  refine lv_iload_n hx hb dX1_dayOfYear_0 rfl (lv_at hl 1 rfl) ?_
  refine kcxo (fun _ q => q) (vx_runS (As := [.int (iZ z1)]) (rest := []) ⟨hx, hb, hml, hown, hts⟩ (c_X1_needPlace l hst k _ (z1) (by omega)) (va_cwS 1 hts (kg_S mw224 mw225 mw42 rfl mw226) rfl rfl rfl hdS_X1_needPlace ⟨Nat.le_of_ble_eq_true rfl, Nat.le_of_ble_eq_true rfl⟩) ⟨fun a U g mk q => ⟨q.1, q.2.1, kB_call q.2.2⟩, fun U hU hW => ⟨rfl, hU, kB_same hB hU hW⟩⟩ rfl rfl hl.1 rfl (lv_room (Nat.le_of_ble_eq_true rfl)) dX1_dayOfYear_1 ⟨Nat.le_of_ble_eq_true rfl, Nat.le_of_ble_eq_true rfl⟩) hno hlocks (fun E h => Or.inl ⟨ex2_1 (by have h9 := h.2; (simp only [inb, noThing_iff, noThing_niff, Bool.not_eq_true', Bool.not_eq_false', Bool.or_eq_true, Bool.or_eq_false_iff, decide_eq_true_eq, decide_eq_false_iff_not] <;> omega)), h.1⟩) (Nat.le_of_ble_eq_true rfl) (Nat.le_of_ble_eq_true rfl) (fun g_1 => ?_)
  have g_1 : 0 ≤ (z1) ∧ (z1) ≤ 3 := g_1
  obtain ⟨p1, hp1, rfl⟩ : ∃ p1 : Nat, p1 < 4 ∧ z1 = (p1 : Int) := ⟨z1.toNat, by omega, by omega⟩
  have o_p1 := kOKr hOK hp1
  refine lv_iload_n hx hb dX1_dayOfYear_4 rfl (lv_at hl 2 rfl) ?_
  refine kcxo (fun _ q => q) (vx_runS (As := [.int (iZ z2)]) (rest := []) ⟨hx, hb, hml, hown, hts⟩ (c_X1_needPlace l hst k _ (z2) (by omega)) (va_cwS 1 hts (kg_S mw224 mw225 mw42 rfl mw226) rfl rfl rfl hdS_X1_needPlace ⟨Nat.le_of_ble_eq_true rfl, Nat.le_of_ble_eq_true rfl⟩) ⟨fun a U g mk q => ⟨q.1, q.2.1, kB_call q.2.2⟩, fun U hU hW => ⟨rfl, hU, kB_same hB hU hW⟩⟩ rfl rfl hl.1 rfl (lv_room (Nat.le_of_ble_eq_true rfl)) dX1_dayOfYear_5 ⟨Nat.le_of_ble_eq_true rfl, Nat.le_of_ble_eq_true rfl⟩) hno hlocks (fun E h => Or.inl ⟨ex2_1 (by have h9 := h.2; (simp only [inb, noThing_iff, noThing_niff, Bool.not_eq_true', Bool.not_eq_false', Bool.or_eq_true, Bool.or_eq_false_iff, decide_eq_true_eq, decide_eq_false_iff_not] <;> omega)), h.1⟩) (Nat.le_of_ble_eq_true rfl) (Nat.le_of_ble_eq_true rfl) (fun g_2 => ?_)
  have g_2 : 0 ≤ (z2) ∧ (z2) ≤ 3 := g_2
  obtain ⟨p2, hp2, rfl⟩ : ∃ p2 : Nat, p2 < 4 ∧ z2 = (p2 : Int) := ⟨z2.toNat, by omega, by omega⟩
  have o_p2 := kOKr hOK hp2
  refine lv_iload_n hx hb dX1_dayOfYear_8 rfl (lv_at hl 3 rfl) ?_
  refine kcxo (fun _ q => q) (vx_runS (As := [.int (iZ z3)]) (rest := []) ⟨hx, hb, hml, hown, hts⟩ (c_X1_needPlace l hst k _ (z3) (by omega)) (va_cwS 1 hts (kg_S mw224 mw225 mw42 rfl mw226) rfl rfl rfl hdS_X1_needPlace ⟨Nat.le_of_ble_eq_true rfl, Nat.le_of_ble_eq_true rfl⟩) ⟨fun a U g mk q => ⟨q.1, q.2.1, kB_call q.2.2⟩, fun U hU hW => ⟨rfl, hU, kB_same hB hU hW⟩⟩ rfl rfl hl.1 rfl (lv_room (Nat.le_of_ble_eq_true rfl)) dX1_dayOfYear_9 ⟨Nat.le_of_ble_eq_true rfl, Nat.le_of_ble_eq_true rfl⟩) hno hlocks (fun E h => Or.inl ⟨ex2_1 (by have h9 := h.2; (simp only [inb, noThing_iff, noThing_niff, Bool.not_eq_true', Bool.not_eq_false', Bool.or_eq_true, Bool.or_eq_false_iff, decide_eq_true_eq, decide_eq_false_iff_not] <;> omega)), h.1⟩) (Nat.le_of_ble_eq_true rfl) (Nat.le_of_ble_eq_true rfl) (fun g_3 => ?_)
  have g_3 : 0 ≤ (z3) ∧ (z3) ≤ 3 := g_3
  obtain ⟨p3, hp3, rfl⟩ : ∃ p3 : Nat, p3 < 4 ∧ z3 = (p3 : Int) := ⟨z3.toNat, by omega, by omega⟩
  have o_p3 := kOKr hOK hp3
  refine lv_aload_n hx hb dX1_dayOfYear_12 rfl (lv_at hl 0 rfl) ?_
  refine lv_iload_n hx hb dX1_dayOfYear_13 rfl (lv_at hl 1 rfl) ?_
  refine lv_iload_n hx hb dX1_dayOfYear_14 rfl (lv_at hl 3 rfl) ?_
  refine lv_aload_n hx hb dX1_dayOfYear_15 rfl (lv_at hl 0 rfl) ?_
  refine va_get (D := (dC, dI)) (ci := 4) (v := .ref (q 2)) (C := RX1) (T := TX1) (N := 8) hx hb hts (fun w h => List.mem_cons_of_mem _ (gF_0_in h)) hown hM.1 hP 0 rfl rfl 1 (by decide) (hts _ (List.mem_cons_of_mem _ mw98)) (fun _ h9 => h9) rfl dX1_dayOfYear_16 ?_
  refine lv_iload_n hx hb dX1_dayOfYear_19 rfl (lv_at hl 2 rfl) ?_
  refine kz_iald (v := σ 2 p2) hx hb hM.1 hP 2 0 rfl rfl (by omega) (by decide) rfl dX1_dayOfYear_20 ?_
  refine kc2 (va_runV (As := [.int (iZ ((p1 : Nat) : Int)), .int (iZ ((p3 : Nat) : Int)), .int (iZ (σ 2 p2))]) (rest := []) ⟨hx, hb, hml, hown, hts⟩ (c_X1_putDayOfFeast l dC dI dA k q (σ) _ ⟨tb, tn, tm, htn, hfit, htm, hP⟩ (hOK) hq p1 p3 ((σ 2 p2)) hp1 hp3 (by omega)) (cwV 3 hts (kg_V mw864 mw865 mw25 mw42 rfl mw866) rfl rfl rfl hdV_X1_putDayOfFeast ⟨Nat.le_of_ble_eq_true rfl, Nat.le_of_ble_eq_true rfl⟩) ⟨fun a U g mk q => ⟨q.1, q.2.1, kM_call q.2.2⟩, va_recv hM.1 hP (ci := 4) (q0 := 0) rfl rfl, fun U hU hW => ⟨rfl, hU, kM_kept hM hS (kA_N hq hM.2.1.1) hU hW⟩⟩ rfl rfl hl.1 rfl (lv_room (Nat.le_of_ble_eq_true rfl)) dX1_dayOfYear_21 ⟨Nat.le_of_ble_eq_true rfl, Nat.le_of_ble_eq_true rfl⟩) hS (fun a _ h => kA_up hS.1 a h) (fun a h => kA_up hS.1 a h) (fun H locs hG hz9 hk9 hS => ?_)
  obtain ⟨tb, tn, tm, htn, hfit, htm, hP⟩ := hG
  refine lv_aload_n hx hb dX1_dayOfYear_24 rfl (lv_at hl 0 rfl) ?_
  refine va_get (D := (dC, dI)) (ci := 4) (v := .ref (q 6)) (C := RX1) (T := TX1) (N := 8) hx hb hts (fun w h => List.mem_cons_of_mem _ (gF_0_in h)) hown hM.1 hP 0 rfl rfl 5 (by decide) (hts _ (List.mem_cons_of_mem _ mw102)) (fun _ h9 => h9) rfl dX1_dayOfYear_25 ?_
  refine lv_iload_n hx hb dX1_dayOfYear_28 rfl (lv_at hl 1 rfl) ?_
  refine kz_iald (v := (sU (sU (sU σ 5 p1 (((σ 2 p2)))) 6 p1 (σ 3 p3)) 7 p1 (dayIn σ p3 (((σ 2 p2))))) 7 p1) hx hb hM.1 hP 6 0 rfl rfl (by omega) (by decide) rfl dX1_dayOfYear_29 ?_
  refine W.widen (k := 3) (n := 18) (Nat.le_of_ble_eq_true rfl) (Nat.le_of_ble_eq_true rfl) ?_
  refine vx_ret ?_
  exact W.iret (v := iZ ((sU (sU (sU σ 5 p1 (((σ 2 p2)))) 6 p1 (σ 3 p3)) 7 p1 (dayIn σ p3 (((σ 2 p2))))) 7 p1)) hx hb hr (fun t ht hW => ⟨⟨⟨congrArg (fun z : Int => Outcome.returned (some (Value.int (iZ z)))) (show ((sU (sU (sU σ 5 p1 (((σ 2 p2)))) 6 p1 (σ 3 p3)) 7 p1 (dayIn σ p3 (((σ 2 p2))))) 7 p1) = (dayIn σ p3 (σ 2 p2)) from by simp only [sU]; simp), gX_cast ⟨tb, tn, tm, htn, hfit, htm, by rw [ht]; exact hP⟩ (show (sU (sU (sU σ 5 p1 (((σ 2 p2)))) 6 p1 (σ 3 p3)) 7 p1 (dayIn σ p3 (((σ 2 p2))))) = (setD σ p1 (σ 2 p2) (σ 3 p3) (dayIn σ p3 (σ 2 p2))) from by rfl)⟩, hS.F ht⟩, ex2_0 (by (simp only [inb, noThing_iff, noThing_niff, Bool.not_eq_true', Bool.not_eq_false', Bool.or_eq_true, Bool.or_eq_false_iff, decide_eq_true_eq, decide_eq_false_iff_not] <;> omega)) (by rfl)⟩) hS.2.2 dX1_dayOfYear_30

abbrev ww_X1_ofLeaf : List Cond := .code yX1_ofLeaf cX1_ofLeaf 6 (some .int) :: gT
set_option maxHeartbeats 4000000 in
set_option maxRecDepth 100000 in
theorem c_X1_ofLeaf (l : Launch) (hst : l.stackTraces = false) (dC : Nat → ClassId) (dI : Nat → Nat → Nat) (dA : Nat → ClassId) (k : Nat → Nat) (q : Nat → Nat) (σ : Nat → Nat → Int) (H0 : Heap) (hG : gX dC dI dA q σ H0) (hOK : kOK σ) (hq : kQI q k) (z1 : Int) (w0 : Int) (rz1 : -2147483648 ≤ z1 ∧ z1 < 2147483648) (rw0 : -2147483648 ≤ w0 ∧ w0 < 2147483648) : vx_Met l yX1_ofLeaf ww_X1_ofLeaf ({ frames := 9, cells := 2, slots := 12, locals := 322 }) (va_Pc [.ref (q 0), .int (iZ z1), .int (iZ w0)] (fun U => U.heap = H0 ∧ kM dC dI dA k U)) (kQ2x (ex2 (!inb z1 0 3) (!inb w0 0 7) = 0) (some (.int (iZ (ofL σ (z1.toNat) w0)))) (gX dC dI dA q (σ)) (kA q H0.size)) (kXC (fun E => (ex2 (!inb z1 0 3) (!inb w0 0 7) = 1 ∧ E = "java/lang/IndexOutOfBoundsException") ∨ (ex2 (!inb z1 0 3) (!inb w0 0 7) = 2 ∧ E = "java/lang/IllegalArgumentException"))) 2 12 (kA q H0.size) := by
  refine vx_ofW (cc := cX1_ofLeaf) (maxL := 6) (ret := (some .int)) (by decide) rfl ?_
  intro p e s m args below meth c s₁ B hml hno hv
  obtain ⟨rfl, hH, hM⟩ := hv
  subst hH
  have hB := hM.2.1
  obtain ⟨tb, tn, tm, htn, hfit, htm, hP⟩ := hG
  have hS : va_S (kA q s.heap.size) s.heap s.heap [] := va_S.rf
  have hx := B.exec
  have hb := B.bytes
  have hr := B.returns
  have hts := atoms_spec (ws := ww_X1_ofLeaf) B.pre
  have hown : s.vm.findClass RX1 = some m.cls := findClass_of_methodNamed B.named
  have hlocks := B.notSynchronized
  have hl := lv_entry ([.ref (q 0), .int (iZ z1), .int (iZ w0)]) (n := 6) (Nat.le_of_ble_eq_true rfl)
  rw [lg_entry_eq]
  generalize (lg_sl ([.ref (q 0), .int (iZ z1), .int (iZ w0)]) ++ List.replicate (6 - (lg_sl ([.ref (q 0), .int (iZ z1), .int (iZ w0)])).length) Slot.unset).toArray = ls at hl ⊢
  have hl : lv_has ls 6 [(0, .ref (q 0)), (1, .int (iZ z1)), (2, .int (iZ w0))] := hl
  refine lv_iload_n hx hb dX1_ofLeaf_0 rfl (lv_at hl 1 rfl) ?_
  refine kcxo (fun _ q => q) (vx_runS (As := [.int (iZ z1)]) (rest := []) ⟨hx, hb, hml, hown, hts⟩ (c_X1_needPlace l hst k _ (z1) (by first | omega | (have e1 := yearOf_cnt (y := σ 0 p1) (m := σ 1 p1) (by omega); have e2 := monOf_cnt (y := σ 0 p1) (m := σ 1 p1) (by omega); omega))) (va_cwS 1 hts (kg_S mw224 mw225 mw42 rfl mw226) rfl rfl rfl hdS_X1_needPlace ⟨Nat.le_of_ble_eq_true rfl, Nat.le_of_ble_eq_true rfl⟩) ⟨fun a U g mk q => ⟨q.1, q.2.1, kB_call q.2.2⟩, fun U hU hW => ⟨rfl, hU, kB_same hB hU hW⟩⟩ rfl rfl hl.1 rfl (lv_room (Nat.le_of_ble_eq_true rfl)) dX1_ofLeaf_1 ⟨Nat.le_of_ble_eq_true rfl, Nat.le_of_ble_eq_true rfl⟩) hno hlocks (fun E h => Or.inl ⟨ex2_1 (by have h9 := h.2; (simp only [inb, noThing_iff, noThing_niff, Bool.not_eq_true', Bool.not_eq_false', Bool.or_eq_true, Bool.or_eq_false_iff, decide_eq_true_eq, decide_eq_false_iff_not] <;> omega)), h.1⟩) (Nat.le_of_ble_eq_true rfl) (Nat.le_of_ble_eq_true rfl) (fun g_1 => ?_)
  have g_1 : 0 ≤ (z1) ∧ (z1) ≤ 3 := g_1
  obtain ⟨p1, hp1, rfl⟩ : ∃ p1 : Nat, p1 < 4 ∧ z1 = (p1 : Int) := ⟨z1.toNat, by omega, by omega⟩
  have o_p1 := kOKr hOK hp1
  refine lv_iload_n hx hb dX1_ofLeaf_4 rfl (lv_at hl 2 rfl) ?_
  refine lv_iconst (v := iZ 0) hx hb dX1_ofLeaf_5 rfl ?_
  refine lv_bipush (v := iZ 7) hx hb dX1_ofLeaf_6 rfl ?_
  refine kcxo (fun _ q => q) (vx_runS (As := [.int (iZ w0), .int (iZ 0), .int (iZ 7)]) (rest := []) ⟨hx, hb, hml, hown, hts⟩ (c_X1_needWithin l hst k _ (w0) (0) (7) (by first | omega | (have e1 := yearOf_cnt (y := σ 0 p1) (m := σ 1 p1) (by omega); have e2 := monOf_cnt (y := σ 0 p1) (m := σ 1 p1) (by omega); omega)) (by first | omega | (have e1 := yearOf_cnt (y := σ 0 p1) (m := σ 1 p1) (by omega); have e2 := monOf_cnt (y := σ 0 p1) (m := σ 1 p1) (by omega); omega)) (by first | omega | (have e1 := yearOf_cnt (y := σ 0 p1) (m := σ 1 p1) (by omega); have e2 := monOf_cnt (y := σ 0 p1) (m := σ 1 p1) (by omega); omega))) (va_cwS 3 hts (kg_S mw228 mw229 mw42 rfl mw230) rfl rfl rfl hdS_X1_needWithin ⟨Nat.le_of_ble_eq_true rfl, Nat.le_of_ble_eq_true rfl⟩) ⟨fun a U g mk q => ⟨q.1, q.2.1, kB_call q.2.2⟩, fun U hU hW => ⟨rfl, hU, kB_same hB hU hW⟩⟩ rfl rfl hl.1 rfl (lv_room (Nat.le_of_ble_eq_true rfl)) dX1_ofLeaf_8 ⟨Nat.le_of_ble_eq_true rfl, Nat.le_of_ble_eq_true rfl⟩) hno hlocks (fun E h => Or.inr ⟨ex2_2 (by (simp only [inb, noThing_iff, noThing_niff, Bool.not_eq_true', Bool.not_eq_false', Bool.or_eq_true, Bool.or_eq_false_iff, decide_eq_true_eq, decide_eq_false_iff_not] <;> omega)) (by have h9 := h.2; (simp only [inb, noThing_iff, noThing_niff, Bool.not_eq_true', Bool.not_eq_false', Bool.or_eq_true, Bool.or_eq_false_iff, decide_eq_true_eq, decide_eq_false_iff_not] <;> omega)), h.1⟩) (Nat.le_of_ble_eq_true rfl) (Nat.le_of_ble_eq_true rfl) (fun g_2 => ?_)
  have g_2 : (0) ≤ (w0) ∧ (w0) ≤ (7) := g_2
  refine lv_aload_n hx hb dX1_ofLeaf_11 rfl (lv_at hl 0 rfl) ?_
  refine va_get (D := (dC, dI)) (ci := 4) (v := .ref (q 1)) (C := RX1) (T := TX1) (N := 8) hx hb hts (fun w h => List.mem_cons_of_mem _ (gF_0_in h)) hown hM.1 hP 0 rfl rfl 0 (by decide) (hts _ (List.mem_cons_of_mem _ mw97)) (fun _ h9 => h9) rfl dX1_ofLeaf_12 ?_
  refine lv_iload_n hx hb dX1_ofLeaf_15 rfl (lv_at hl 1 rfl) ?_
  refine kz_lald (v := cnt (σ 0 p1) (σ 1 p1)) hx hb hM.1 hP 1 1 rfl rfl (by omega) (by decide) rfl dX1_ofLeaf_16 ?_
  refine lv_lstore_n (lv' := [(3, .long (lZ (cnt (σ 0 p1) (σ 1 p1)))), (0, .ref (q 0)), (1, .int (iZ ((p1 : Nat) : Int))), (2, .int (iZ w0))]) hx hb dX1_ofLeaf_17 rfl hl (by decide) rfl (fun ls hl => ?_)
  refine lv_lload_n hx hb dX1_ofLeaf_18 rfl (lv_at hl 0 rfl) ?_
  refine kc0 (fun _ q => q) (va_runS (As := [.long (lZ (cnt (σ 0 p1) (σ 1 p1)))]) (rest := []) ⟨hx, hb, hml, hown, hts⟩ (c_X0_yearOfCount l _ ((cnt (σ 0 p1) (σ 1 p1))) (by first | omega | (have e1 := yearOf_cnt (y := σ 0 p1) (m := σ 1 p1) (by omega); have e2 := monOf_cnt (y := σ 0 p1) (m := σ 1 p1) (by omega); omega))) (va_cwS 1 hts (kg_S mw152 mw143 mw51 rfl mw144) rfl rfl rfl hdS_X0_yearOfCount ⟨Nat.le_of_ble_eq_true rfl, Nat.le_of_ble_eq_true rfl⟩) ⟨fun a U g mk q => q, fun U hU hW => ⟨rfl, hU⟩⟩ rfl rfl hl.1 rfl (lv_room (Nat.le_of_ble_eq_true rfl)) dX1_ofLeaf_19 ⟨Nat.le_of_ble_eq_true rfl, Nat.le_of_ble_eq_true rfl⟩) ?_
  refine lv_istore (lv' := [(5, .int (iZ (yearOf (((cnt (σ 0 p1) (σ 1 p1))))))), (3, .long (lZ (cnt (σ 0 p1) (σ 1 p1)))), (0, .ref (q 0)), (1, .int (iZ ((p1 : Nat) : Int))), (2, .int (iZ w0))]) hx hb dX1_ofLeaf_22 hl (by decide) rfl (fun ls hl => ?_)
  refine lv_iload_n hx hb dX1_ofLeaf_24 rfl (lv_at hl 4 rfl) ?_
  by_cases c_3 : w0 = 0
  · refine lv_tableIn (tgt := 72) (off := 47) hx hb dX1_ofLeaf_25 (by rw [iZ_toInt (z := w0) (by first | omega | (have e1 := yearOf_cnt (y := σ 0 p1) (m := σ 1 p1) (by omega); have e2 := monOf_cnt (y := σ 0 p1) (m := σ 1 p1) (by omega); omega))]; omega) (by rw [iZ_toInt (z := w0) (by first | omega | (have e1 := yearOf_cnt (y := σ 0 p1) (m := σ 1 p1) (by omega); have e2 := monOf_cnt (y := σ 0 p1) (m := σ 1 p1) (by omega); omega))]; omega) (by rw [iZ_toInt (z := w0) (by first | omega | (have e1 := yearOf_cnt (y := σ 0 p1) (m := σ 1 p1) (by omega); have e2 := monOf_cnt (y := σ 0 p1) (m := σ 1 p1) (by omega); omega)), show w0 = 0 from by omega]; rfl) (by decide) ?_
    refine lv_iload hx hb dX1_ofLeaf_72 (lv_at hl 0 rfl) ?_
    refine W.widen (k := 2) (n := 12) (Nat.le_of_ble_eq_true rfl) (Nat.le_of_ble_eq_true rfl) ?_
    refine vx_ret ?_
    exact W.iret (v := iZ (yearOf (((cnt (σ 0 p1) (σ 1 p1)))))) hx hb hr (fun t ht hW => ⟨⟨⟨congrArg (fun z : Int => Outcome.returned (some (Value.int (iZ z)))) (show (yearOf (((cnt (σ 0 p1) (σ 1 p1))))) = (ofL σ p1 w0) from by unfold ofL; have e1 := yearOf_cnt (y := σ 0 p1) (m := σ 1 p1) (by omega); have e2 := monOf_cnt (y := σ 0 p1) (m := σ 1 p1) (by omega); have e3 := lenOf_cnt (y := σ 0 p1) (m := σ 1 p1) (by omega); (try rw [e1]); (try rw [e2]); (try rw [e3]); simp [*]), gX_cast ⟨tb, tn, tm, htn, hfit, htm, by rw [ht]; exact hP⟩ (show (σ) = (σ) from by rfl)⟩, hS.F ht⟩, ex2_0 (by (simp only [inb, noThing_iff, noThing_niff, Bool.not_eq_true', Bool.not_eq_false', Bool.or_eq_true, Bool.or_eq_false_iff, decide_eq_true_eq, decide_eq_false_iff_not] <;> omega)) (by (simp only [inb, noThing_iff, noThing_niff, Bool.not_eq_true', Bool.not_eq_false', Bool.or_eq_true, Bool.or_eq_false_iff, decide_eq_true_eq, decide_eq_false_iff_not] <;> omega))⟩) hS.2.2 dX1_ofLeaf_74
  by_cases c_4 : w0 = 1
  · refine lv_tableIn (tgt := 109) (off := 84) hx hb dX1_ofLeaf_25 (by rw [iZ_toInt (z := w0) (by first | omega | (have e1 := yearOf_cnt (y := σ 0 p1) (m := σ 1 p1) (by omega); have e2 := monOf_cnt (y := σ 0 p1) (m := σ 1 p1) (by omega); omega))]; omega) (by rw [iZ_toInt (z := w0) (by first | omega | (have e1 := yearOf_cnt (y := σ 0 p1) (m := σ 1 p1) (by omega); have e2 := monOf_cnt (y := σ 0 p1) (m := σ 1 p1) (by omega); omega))]; omega) (by rw [iZ_toInt (z := w0) (by first | omega | (have e1 := yearOf_cnt (y := σ 0 p1) (m := σ 1 p1) (by omega); have e2 := monOf_cnt (y := σ 0 p1) (m := σ 1 p1) (by omega); omega)), show w0 = 1 from by omega]; rfl) (by decide) ?_
    refine lv_lload_n hx hb dX1_ofLeaf_109 rfl (lv_at hl 1 rfl) ?_
    refine kc0 (fun _ q => q) (va_runS (As := [.long (lZ (cnt (σ 0 p1) (σ 1 p1)))]) (rest := []) ⟨hx, hb, hml, hown, hts⟩ (c_X0_monthOf l _ ((cnt (σ 0 p1) (σ 1 p1))) (by first | omega | (have e1 := yearOf_cnt (y := σ 0 p1) (m := σ 1 p1) (by omega); have e2 := monOf_cnt (y := σ 0 p1) (m := σ 1 p1) (by omega); omega))) (va_cwS 1 hts (kg_S mw153 mw136 mw51 rfl mw137) rfl rfl rfl hdS_X0_monthOf ⟨Nat.le_of_ble_eq_true rfl, Nat.le_of_ble_eq_true rfl⟩) ⟨fun a U g mk q => q, fun U hU hW => ⟨rfl, hU⟩⟩ rfl rfl hl.1 rfl (lv_room (Nat.le_of_ble_eq_true rfl)) dX1_ofLeaf_110 ⟨Nat.le_of_ble_eq_true rfl, Nat.le_of_ble_eq_true rfl⟩) ?_
    refine W.widen (k := 2) (n := 12) (Nat.le_of_ble_eq_true rfl) (Nat.le_of_ble_eq_true rfl) ?_
    refine vx_ret ?_
    exact W.iret (v := iZ (monOf (((cnt (σ 0 p1) (σ 1 p1)))))) hx hb hr (fun t ht hW => ⟨⟨⟨congrArg (fun z : Int => Outcome.returned (some (Value.int (iZ z)))) (show (monOf (((cnt (σ 0 p1) (σ 1 p1))))) = (ofL σ p1 w0) from by unfold ofL; have e1 := yearOf_cnt (y := σ 0 p1) (m := σ 1 p1) (by omega); have e2 := monOf_cnt (y := σ 0 p1) (m := σ 1 p1) (by omega); have e3 := lenOf_cnt (y := σ 0 p1) (m := σ 1 p1) (by omega); (try rw [e1]); (try rw [e2]); (try rw [e3]); simp [*]), gX_cast ⟨tb, tn, tm, htn, hfit, htm, by rw [ht]; exact hP⟩ (show (σ) = (σ) from by rfl)⟩, hS.F ht⟩, ex2_0 (by (simp only [inb, noThing_iff, noThing_niff, Bool.not_eq_true', Bool.not_eq_false', Bool.or_eq_true, Bool.or_eq_false_iff, decide_eq_true_eq, decide_eq_false_iff_not] <;> omega)) (by (simp only [inb, noThing_iff, noThing_niff, Bool.not_eq_true', Bool.not_eq_false', Bool.or_eq_true, Bool.or_eq_false_iff, decide_eq_true_eq, decide_eq_false_iff_not] <;> omega))⟩) hS.2.2 dX1_ofLeaf_113
  by_cases c_5 : w0 = 2
  · refine lv_tableIn (tgt := 75) (off := 50) hx hb dX1_ofLeaf_25 (by rw [iZ_toInt (z := w0) (by first | omega | (have e1 := yearOf_cnt (y := σ 0 p1) (m := σ 1 p1) (by omega); have e2 := monOf_cnt (y := σ 0 p1) (m := σ 1 p1) (by omega); omega))]; omega) (by rw [iZ_toInt (z := w0) (by first | omega | (have e1 := yearOf_cnt (y := σ 0 p1) (m := σ 1 p1) (by omega); have e2 := monOf_cnt (y := σ 0 p1) (m := σ 1 p1) (by omega); omega))]; omega) (by rw [iZ_toInt (z := w0) (by first | omega | (have e1 := yearOf_cnt (y := σ 0 p1) (m := σ 1 p1) (by omega); have e2 := monOf_cnt (y := σ 0 p1) (m := σ 1 p1) (by omega); omega)), show w0 = 2 from by omega]; rfl) (by decide) ?_
    refine lv_lload_n hx hb dX1_ofLeaf_75 rfl (lv_at hl 1 rfl) ?_
    refine kc0 (fun _ q => q) (va_runS (As := [.long (lZ (cnt (σ 0 p1) (σ 1 p1)))]) (rest := []) ⟨hx, hb, hml, hown, hts⟩ (c_X0_lengthOf l _ ((cnt (σ 0 p1) (σ 1 p1))) (by first | omega | (have e1 := yearOf_cnt (y := σ 0 p1) (m := σ 1 p1) (by omega); have e2 := monOf_cnt (y := σ 0 p1) (m := σ 1 p1) (by omega); omega))) (va_cwS 1 hts (kg_S mw132 mw133 mw51 rfl mw134) rfl rfl rfl hdS_X0_lengthOf ⟨Nat.le_of_ble_eq_true rfl, Nat.le_of_ble_eq_true rfl⟩) ⟨fun a U g mk q => q, fun U hU hW => ⟨rfl, hU⟩⟩ rfl rfl hl.1 rfl (lv_room (Nat.le_of_ble_eq_true rfl)) dX1_ofLeaf_76 ⟨Nat.le_of_ble_eq_true rfl, Nat.le_of_ble_eq_true rfl⟩) ?_
    refine W.widen (k := 2) (n := 12) (Nat.le_of_ble_eq_true rfl) (Nat.le_of_ble_eq_true rfl) ?_
    refine vx_ret ?_
    exact W.iret (v := iZ (lenOf (((cnt (σ 0 p1) (σ 1 p1)))))) hx hb hr (fun t ht hW => ⟨⟨⟨congrArg (fun z : Int => Outcome.returned (some (Value.int (iZ z)))) (show (lenOf (((cnt (σ 0 p1) (σ 1 p1))))) = (ofL σ p1 w0) from by unfold ofL; have e1 := yearOf_cnt (y := σ 0 p1) (m := σ 1 p1) (by omega); have e2 := monOf_cnt (y := σ 0 p1) (m := σ 1 p1) (by omega); have e3 := lenOf_cnt (y := σ 0 p1) (m := σ 1 p1) (by omega); (try rw [e1]); (try rw [e2]); (try rw [e3]); simp [*]), gX_cast ⟨tb, tn, tm, htn, hfit, htm, by rw [ht]; exact hP⟩ (show (σ) = (σ) from by rfl)⟩, hS.F ht⟩, ex2_0 (by (simp only [inb, noThing_iff, noThing_niff, Bool.not_eq_true', Bool.not_eq_false', Bool.or_eq_true, Bool.or_eq_false_iff, decide_eq_true_eq, decide_eq_false_iff_not] <;> omega)) (by (simp only [inb, noThing_iff, noThing_niff, Bool.not_eq_true', Bool.not_eq_false', Bool.or_eq_true, Bool.or_eq_false_iff, decide_eq_true_eq, decide_eq_false_iff_not] <;> omega))⟩) hS.2.2 dX1_ofLeaf_79
  by_cases c_6 : w0 = 3
  · refine lv_tableIn (tgt := 80) (off := 55) hx hb dX1_ofLeaf_25 (by rw [iZ_toInt (z := w0) (by first | omega | (have e1 := yearOf_cnt (y := σ 0 p1) (m := σ 1 p1) (by omega); have e2 := monOf_cnt (y := σ 0 p1) (m := σ 1 p1) (by omega); omega))]; omega) (by rw [iZ_toInt (z := w0) (by first | omega | (have e1 := yearOf_cnt (y := σ 0 p1) (m := σ 1 p1) (by omega); have e2 := monOf_cnt (y := σ 0 p1) (m := σ 1 p1) (by omega); omega))]; omega) (by rw [iZ_toInt (z := w0) (by first | omega | (have e1 := yearOf_cnt (y := σ 0 p1) (m := σ 1 p1) (by omega); have e2 := monOf_cnt (y := σ 0 p1) (m := σ 1 p1) (by omega); omega)), show w0 = 3 from by omega]; rfl) (by decide) ?_
    refine lv_iload hx hb dX1_ofLeaf_80 (lv_at hl 0 rfl) ?_
    refine kz_i2l hx hb (by first | omega | (have e1 := yearOf_cnt (y := σ 0 p1) (m := σ 1 p1) (by omega); have e2 := monOf_cnt (y := σ 0 p1) (m := σ 1 p1) (by omega); omega)) dX1_ofLeaf_82 ?_
    refine kc0 (fun _ q => q) (va_runS (As := [.long (lZ ((yearOf (((cnt (σ 0 p1) (σ 1 p1)))))))]) (rest := []) ⟨hx, hb, hml, hown, hts⟩ (c_X0_yearLength l _ (((yearOf (((cnt (σ 0 p1) (σ 1 p1))))))) (by first | omega | (have e1 := yearOf_cnt (y := σ 0 p1) (m := σ 1 p1) (by omega); have e2 := monOf_cnt (y := σ 0 p1) (m := σ 1 p1) (by omega); omega))) (va_cwS 1 hts (kg_S mw182 mw183 mw51 rfl mw184) rfl rfl rfl hdS_X0_yearLength ⟨Nat.le_of_ble_eq_true rfl, Nat.le_of_ble_eq_true rfl⟩) ⟨fun a U g mk q => q, fun U hU hW => ⟨rfl, hU⟩⟩ rfl rfl hl.1 rfl (lv_room (Nat.le_of_ble_eq_true rfl)) dX1_ofLeaf_83 ⟨Nat.le_of_ble_eq_true rfl, Nat.le_of_ble_eq_true rfl⟩) ?_
    refine W.widen (k := 2) (n := 12) (Nat.le_of_ble_eq_true rfl) (Nat.le_of_ble_eq_true rfl) ?_
    refine vx_ret ?_
    exact W.iret (v := iZ (ylen ((((yearOf (((cnt (σ 0 p1) (σ 1 p1)))))))))) hx hb hr (fun t ht hW => ⟨⟨⟨congrArg (fun z : Int => Outcome.returned (some (Value.int (iZ z)))) (show (ylen ((((yearOf (((cnt (σ 0 p1) (σ 1 p1))))))))) = (ofL σ p1 w0) from by unfold ofL; have e1 := yearOf_cnt (y := σ 0 p1) (m := σ 1 p1) (by omega); have e2 := monOf_cnt (y := σ 0 p1) (m := σ 1 p1) (by omega); have e3 := lenOf_cnt (y := σ 0 p1) (m := σ 1 p1) (by omega); (try rw [e1]); (try rw [e2]); (try rw [e3]); simp [*]), gX_cast ⟨tb, tn, tm, htn, hfit, htm, by rw [ht]; exact hP⟩ (show (σ) = (σ) from by rfl)⟩, hS.F ht⟩, ex2_0 (by (simp only [inb, noThing_iff, noThing_niff, Bool.not_eq_true', Bool.not_eq_false', Bool.or_eq_true, Bool.or_eq_false_iff, decide_eq_true_eq, decide_eq_false_iff_not] <;> omega)) (by (simp only [inb, noThing_iff, noThing_niff, Bool.not_eq_true', Bool.not_eq_false', Bool.or_eq_true, Bool.or_eq_false_iff, decide_eq_true_eq, decide_eq_false_iff_not] <;> omega))⟩) hS.2.2 dX1_ofLeaf_86
  by_cases c_7 : w0 = 4
  · refine lv_tableIn (tgt := 87) (off := 62) hx hb dX1_ofLeaf_25 (by rw [iZ_toInt (z := w0) (by first | omega | (have e1 := yearOf_cnt (y := σ 0 p1) (m := σ 1 p1) (by omega); have e2 := monOf_cnt (y := σ 0 p1) (m := σ 1 p1) (by omega); omega))]; omega) (by rw [iZ_toInt (z := w0) (by first | omega | (have e1 := yearOf_cnt (y := σ 0 p1) (m := σ 1 p1) (by omega); have e2 := monOf_cnt (y := σ 0 p1) (m := σ 1 p1) (by omega); omega))]; omega) (by rw [iZ_toInt (z := w0) (by first | omega | (have e1 := yearOf_cnt (y := σ 0 p1) (m := σ 1 p1) (by omega); have e2 := monOf_cnt (y := σ 0 p1) (m := σ 1 p1) (by omega); omega)), show w0 = 4 from by omega]; rfl) (by decide) ?_
    refine lv_iload hx hb dX1_ofLeaf_87 (lv_at hl 0 rfl) ?_
    refine kz_i2l hx hb (by first | omega | (have e1 := yearOf_cnt (y := σ 0 p1) (m := σ 1 p1) (by omega); have e2 := monOf_cnt (y := σ 0 p1) (m := σ 1 p1) (by omega); omega)) dX1_ofLeaf_89 ?_
    refine kc0 (fun _ q => q) (va_runS (As := [.long (lZ ((yearOf (((cnt (σ 0 p1) (σ 1 p1)))))))]) (rest := []) ⟨hx, hb, hml, hown, hts⟩ (c_X0_isLeapNumber l _ (((yearOf (((cnt (σ 0 p1) (σ 1 p1))))))) (by first | omega | (have e1 := yearOf_cnt (y := σ 0 p1) (m := σ 1 p1) (by omega); have e2 := monOf_cnt (y := σ 0 p1) (m := σ 1 p1) (by omega); omega))) (va_cwS 1 hts (kg_S mw109 mw110 mw51 rfl mw111) rfl rfl rfl hdS_X0_isLeapNumber ⟨Nat.le_of_ble_eq_true rfl, Nat.le_of_ble_eq_true rfl⟩) ⟨fun a U g mk q => q, fun U hU hW => ⟨rfl, hU⟩⟩ rfl rfl hl.1 rfl (lv_room (Nat.le_of_ble_eq_true rfl)) dX1_ofLeaf_90 ⟨Nat.le_of_ble_eq_true rfl, Nat.le_of_ble_eq_true rfl⟩) ?_
    refine kc0 (fun _ q => q) (va_runS (As := [.int (iZ (bZ (leap ((((yearOf (((cnt (σ 0 p1) (σ 1 p1)))))))))))]) (rest := []) ⟨hx, hb, hml, hown, hts⟩ (c_X1_oneIf l _ (leap ((((yearOf (((cnt (σ 0 p1) (σ 1 p1)))))))))) (va_cwS 1 hts (kg_S mw176 mw177 mw42 rfl mw178) rfl rfl rfl hdS_X1_oneIf ⟨Nat.le_of_ble_eq_true rfl, Nat.le_of_ble_eq_true rfl⟩) ⟨fun a U g mk q => q, fun U hU hW => ⟨rfl, hU⟩⟩ rfl rfl hl.1 rfl (lv_room (Nat.le_of_ble_eq_true rfl)) dX1_ofLeaf_93 ⟨Nat.le_of_ble_eq_true rfl, Nat.le_of_ble_eq_true rfl⟩) ?_
    refine W.widen (k := 2) (n := 12) (Nat.le_of_ble_eq_true rfl) (Nat.le_of_ble_eq_true rfl) ?_
    refine vx_ret ?_
    exact W.iret (v := iZ (bZ ((leap ((((yearOf (((cnt (σ 0 p1) (σ 1 p1)))))))))))) hx hb hr (fun t ht hW => ⟨⟨⟨congrArg (fun z : Int => Outcome.returned (some (Value.int (iZ z)))) (show (bZ ((leap ((((yearOf (((cnt (σ 0 p1) (σ 1 p1))))))))))) = (ofL σ p1 w0) from by unfold ofL; have e1 := yearOf_cnt (y := σ 0 p1) (m := σ 1 p1) (by omega); have e2 := monOf_cnt (y := σ 0 p1) (m := σ 1 p1) (by omega); have e3 := lenOf_cnt (y := σ 0 p1) (m := σ 1 p1) (by omega); (try rw [e1]); (try rw [e2]); (try rw [e3]); simp [*]), gX_cast ⟨tb, tn, tm, htn, hfit, htm, by rw [ht]; exact hP⟩ (show (σ) = (σ) from by rfl)⟩, hS.F ht⟩, ex2_0 (by (simp only [inb, noThing_iff, noThing_niff, Bool.not_eq_true', Bool.not_eq_false', Bool.or_eq_true, Bool.or_eq_false_iff, decide_eq_true_eq, decide_eq_false_iff_not] <;> omega)) (by (simp only [inb, noThing_iff, noThing_niff, Bool.not_eq_true', Bool.not_eq_false', Bool.or_eq_true, Bool.or_eq_false_iff, decide_eq_true_eq, decide_eq_false_iff_not] <;> omega))⟩) hS.2.2 dX1_ofLeaf_96
  by_cases c_8 : w0 = 5
  · refine lv_tableIn (tgt := 109) (off := 84) hx hb dX1_ofLeaf_25 (by rw [iZ_toInt (z := w0) (by first | omega | (have e1 := yearOf_cnt (y := σ 0 p1) (m := σ 1 p1) (by omega); have e2 := monOf_cnt (y := σ 0 p1) (m := σ 1 p1) (by omega); omega))]; omega) (by rw [iZ_toInt (z := w0) (by first | omega | (have e1 := yearOf_cnt (y := σ 0 p1) (m := σ 1 p1) (by omega); have e2 := monOf_cnt (y := σ 0 p1) (m := σ 1 p1) (by omega); omega))]; omega) (by rw [iZ_toInt (z := w0) (by first | omega | (have e1 := yearOf_cnt (y := σ 0 p1) (m := σ 1 p1) (by omega); have e2 := monOf_cnt (y := σ 0 p1) (m := σ 1 p1) (by omega); omega)), show w0 = 5 from by omega]; rfl) (by decide) ?_
    refine lv_lload_n hx hb dX1_ofLeaf_109 rfl (lv_at hl 1 rfl) ?_
    refine kc0 (fun _ q => q) (va_runS (As := [.long (lZ (cnt (σ 0 p1) (σ 1 p1)))]) (rest := []) ⟨hx, hb, hml, hown, hts⟩ (c_X0_monthOf l _ ((cnt (σ 0 p1) (σ 1 p1))) (by first | omega | (have e1 := yearOf_cnt (y := σ 0 p1) (m := σ 1 p1) (by omega); have e2 := monOf_cnt (y := σ 0 p1) (m := σ 1 p1) (by omega); omega))) (va_cwS 1 hts (kg_S mw153 mw136 mw51 rfl mw137) rfl rfl rfl hdS_X0_monthOf ⟨Nat.le_of_ble_eq_true rfl, Nat.le_of_ble_eq_true rfl⟩) ⟨fun a U g mk q => q, fun U hU hW => ⟨rfl, hU⟩⟩ rfl rfl hl.1 rfl (lv_room (Nat.le_of_ble_eq_true rfl)) dX1_ofLeaf_110 ⟨Nat.le_of_ble_eq_true rfl, Nat.le_of_ble_eq_true rfl⟩) ?_
    refine W.widen (k := 2) (n := 12) (Nat.le_of_ble_eq_true rfl) (Nat.le_of_ble_eq_true rfl) ?_
    refine vx_ret ?_
    exact W.iret (v := iZ (monOf (((cnt (σ 0 p1) (σ 1 p1)))))) hx hb hr (fun t ht hW => ⟨⟨⟨congrArg (fun z : Int => Outcome.returned (some (Value.int (iZ z)))) (show (monOf (((cnt (σ 0 p1) (σ 1 p1))))) = (ofL σ p1 w0) from by unfold ofL; have e1 := yearOf_cnt (y := σ 0 p1) (m := σ 1 p1) (by omega); have e2 := monOf_cnt (y := σ 0 p1) (m := σ 1 p1) (by omega); have e3 := lenOf_cnt (y := σ 0 p1) (m := σ 1 p1) (by omega); (try rw [e1]); (try rw [e2]); (try rw [e3]); simp [*]), gX_cast ⟨tb, tn, tm, htn, hfit, htm, by rw [ht]; exact hP⟩ (show (σ) = (σ) from by rfl)⟩, hS.F ht⟩, ex2_0 (by (simp only [inb, noThing_iff, noThing_niff, Bool.not_eq_true', Bool.not_eq_false', Bool.or_eq_true, Bool.or_eq_false_iff, decide_eq_true_eq, decide_eq_false_iff_not] <;> omega)) (by (simp only [inb, noThing_iff, noThing_niff, Bool.not_eq_true', Bool.not_eq_false', Bool.or_eq_true, Bool.or_eq_false_iff, decide_eq_true_eq, decide_eq_false_iff_not] <;> omega))⟩) hS.2.2 dX1_ofLeaf_113
  by_cases c_9 : w0 = 6
  · refine lv_tableIn (tgt := 97) (off := 72) hx hb dX1_ofLeaf_25 (by rw [iZ_toInt (z := w0) (by first | omega | (have e1 := yearOf_cnt (y := σ 0 p1) (m := σ 1 p1) (by omega); have e2 := monOf_cnt (y := σ 0 p1) (m := σ 1 p1) (by omega); omega))]; omega) (by rw [iZ_toInt (z := w0) (by first | omega | (have e1 := yearOf_cnt (y := σ 0 p1) (m := σ 1 p1) (by omega); have e2 := monOf_cnt (y := σ 0 p1) (m := σ 1 p1) (by omega); omega))]; omega) (by rw [iZ_toInt (z := w0) (by first | omega | (have e1 := yearOf_cnt (y := σ 0 p1) (m := σ 1 p1) (by omega); have e2 := monOf_cnt (y := σ 0 p1) (m := σ 1 p1) (by omega); omega)), show w0 = 6 from by omega]; rfl) (by decide) ?_
    refine lv_iload hx hb dX1_ofLeaf_97 (lv_at hl 0 rfl) ?_
    refine kc0 (fun _ q => q) (va_runS (As := [.int (iZ (yearOf (((cnt (σ 0 p1) (σ 1 p1))))))]) (rest := []) ⟨hx, hb, hml, hown, hts⟩ (c_X0_rankOf l _ ((yearOf (((cnt (σ 0 p1) (σ 1 p1)))))) (by first | omega | (have e1 := yearOf_cnt (y := σ 0 p1) (m := σ 1 p1) (by omega); have e2 := monOf_cnt (y := σ 0 p1) (m := σ 1 p1) (by omega); omega))) (va_cwS 1 hts (kg_S mw232 mw233 mw51 rfl mw234) rfl rfl rfl hdS_X0_rankOf ⟨Nat.le_of_ble_eq_true rfl, Nat.le_of_ble_eq_true rfl⟩) ⟨fun a U g mk q => q, fun U hU hW => ⟨rfl, hU⟩⟩ rfl rfl hl.1 rfl (lv_room (Nat.le_of_ble_eq_true rfl)) dX1_ofLeaf_99 ⟨Nat.le_of_ble_eq_true rfl, Nat.le_of_ble_eq_true rfl⟩) ?_
    refine W.widen (k := 2) (n := 12) (Nat.le_of_ble_eq_true rfl) (Nat.le_of_ble_eq_true rfl) ?_
    refine vx_ret ?_
    exact W.iret (v := iZ (rank (((yearOf (((cnt (σ 0 p1) (σ 1 p1))))))))) hx hb hr (fun t ht hW => ⟨⟨⟨congrArg (fun z : Int => Outcome.returned (some (Value.int (iZ z)))) (show (rank (((yearOf (((cnt (σ 0 p1) (σ 1 p1)))))))) = (ofL σ p1 w0) from by unfold ofL; have e1 := yearOf_cnt (y := σ 0 p1) (m := σ 1 p1) (by omega); have e2 := monOf_cnt (y := σ 0 p1) (m := σ 1 p1) (by omega); have e3 := lenOf_cnt (y := σ 0 p1) (m := σ 1 p1) (by omega); (try rw [e1]); (try rw [e2]); (try rw [e3]); simp [*]), gX_cast ⟨tb, tn, tm, htn, hfit, htm, by rw [ht]; exact hP⟩ (show (σ) = (σ) from by rfl)⟩, hS.F ht⟩, ex2_0 (by (simp only [inb, noThing_iff, noThing_niff, Bool.not_eq_true', Bool.not_eq_false', Bool.or_eq_true, Bool.or_eq_false_iff, decide_eq_true_eq, decide_eq_false_iff_not] <;> omega)) (by (simp only [inb, noThing_iff, noThing_niff, Bool.not_eq_true', Bool.not_eq_false', Bool.or_eq_true, Bool.or_eq_false_iff, decide_eq_true_eq, decide_eq_false_iff_not] <;> omega))⟩) hS.2.2 dX1_ofLeaf_102
  by_cases c_10 : w0 = 7
  · refine lv_tableIn (tgt := 103) (off := 78) hx hb dX1_ofLeaf_25 (by rw [iZ_toInt (z := w0) (by first | omega | (have e1 := yearOf_cnt (y := σ 0 p1) (m := σ 1 p1) (by omega); have e2 := monOf_cnt (y := σ 0 p1) (m := σ 1 p1) (by omega); omega))]; omega) (by rw [iZ_toInt (z := w0) (by first | omega | (have e1 := yearOf_cnt (y := σ 0 p1) (m := σ 1 p1) (by omega); have e2 := monOf_cnt (y := σ 0 p1) (m := σ 1 p1) (by omega); omega))]; omega) (by rw [iZ_toInt (z := w0) (by first | omega | (have e1 := yearOf_cnt (y := σ 0 p1) (m := σ 1 p1) (by omega); have e2 := monOf_cnt (y := σ 0 p1) (m := σ 1 p1) (by omega); omega)), show w0 = 7 from by omega]; rfl) (by decide) ?_
    refine lv_iload hx hb dX1_ofLeaf_103 (lv_at hl 0 rfl) ?_
    refine kc0 (fun _ q => q) (va_runS (As := [.int (iZ (yearOf (((cnt (σ 0 p1) (σ 1 p1))))))]) (rest := []) ⟨hx, hb, hml, hown, hts⟩ (c_X0_sideOf l _ ((yearOf (((cnt (σ 0 p1) (σ 1 p1)))))) (by first | omega | (have e1 := yearOf_cnt (y := σ 0 p1) (m := σ 1 p1) (by omega); have e2 := monOf_cnt (y := σ 0 p1) (m := σ 1 p1) (by omega); omega))) (va_cwS 1 hts (kg_S mw235 mw236 mw51 rfl mw237) rfl rfl rfl hdS_X0_sideOf ⟨Nat.le_of_ble_eq_true rfl, Nat.le_of_ble_eq_true rfl⟩) ⟨fun a U g mk q => q, fun U hU hW => ⟨rfl, hU⟩⟩ rfl rfl hl.1 rfl (lv_room (Nat.le_of_ble_eq_true rfl)) dX1_ofLeaf_105 ⟨Nat.le_of_ble_eq_true rfl, Nat.le_of_ble_eq_true rfl⟩) ?_
    refine W.widen (k := 2) (n := 12) (Nat.le_of_ble_eq_true rfl) (Nat.le_of_ble_eq_true rfl) ?_
    refine vx_ret ?_
    exact W.iret (v := iZ (side (((yearOf (((cnt (σ 0 p1) (σ 1 p1))))))))) hx hb hr (fun t ht hW => ⟨⟨⟨congrArg (fun z : Int => Outcome.returned (some (Value.int (iZ z)))) (show (side (((yearOf (((cnt (σ 0 p1) (σ 1 p1)))))))) = (ofL σ p1 w0) from by unfold ofL; have e1 := yearOf_cnt (y := σ 0 p1) (m := σ 1 p1) (by omega); have e2 := monOf_cnt (y := σ 0 p1) (m := σ 1 p1) (by omega); have e3 := lenOf_cnt (y := σ 0 p1) (m := σ 1 p1) (by omega); (try rw [e1]); (try rw [e2]); (try rw [e3]); simp [*]), gX_cast ⟨tb, tn, tm, htn, hfit, htm, by rw [ht]; exact hP⟩ (show (σ) = (σ) from by rfl)⟩, hS.F ht⟩, ex2_0 (by (simp only [inb, noThing_iff, noThing_niff, Bool.not_eq_true', Bool.not_eq_false', Bool.or_eq_true, Bool.or_eq_false_iff, decide_eq_true_eq, decide_eq_false_iff_not] <;> omega)) (by (simp only [inb, noThing_iff, noThing_niff, Bool.not_eq_true', Bool.not_eq_false', Bool.or_eq_true, Bool.or_eq_false_iff, decide_eq_true_eq, decide_eq_false_iff_not] <;> omega))⟩) hS.2.2 dX1_ofLeaf_108
  refine lv_tableOut (tgt := 109) hx hb dX1_ofLeaf_25 (by rw [iZ_toInt (z := w0) (by first | omega | (have e1 := yearOf_cnt (y := σ 0 p1) (m := σ 1 p1) (by omega); have e2 := monOf_cnt (y := σ 0 p1) (m := σ 1 p1) (by omega); omega))]; omega) (by decide) ?_
  refine lv_lload_n hx hb dX1_ofLeaf_109 rfl (lv_at hl 1 rfl) ?_
  refine kc0 (fun _ q => q) (va_runS (As := [.long (lZ (cnt (σ 0 p1) (σ 1 p1)))]) (rest := []) ⟨hx, hb, hml, hown, hts⟩ (c_X0_monthOf l _ ((cnt (σ 0 p1) (σ 1 p1))) (by first | omega | (have e1 := yearOf_cnt (y := σ 0 p1) (m := σ 1 p1) (by omega); have e2 := monOf_cnt (y := σ 0 p1) (m := σ 1 p1) (by omega); omega))) (va_cwS 1 hts (kg_S mw153 mw136 mw51 rfl mw137) rfl rfl rfl hdS_X0_monthOf ⟨Nat.le_of_ble_eq_true rfl, Nat.le_of_ble_eq_true rfl⟩) ⟨fun a U g mk q => q, fun U hU hW => ⟨rfl, hU⟩⟩ rfl rfl hl.1 rfl (lv_room (Nat.le_of_ble_eq_true rfl)) dX1_ofLeaf_110 ⟨Nat.le_of_ble_eq_true rfl, Nat.le_of_ble_eq_true rfl⟩) ?_
  refine W.widen (k := 2) (n := 12) (Nat.le_of_ble_eq_true rfl) (Nat.le_of_ble_eq_true rfl) ?_
  refine vx_ret ?_
  exact W.iret (v := iZ (monOf (((cnt (σ 0 p1) (σ 1 p1)))))) hx hb hr (fun t ht hW => ⟨⟨⟨congrArg (fun z : Int => Outcome.returned (some (Value.int (iZ z)))) (show (monOf (((cnt (σ 0 p1) (σ 1 p1))))) = (ofL σ p1 w0) from by unfold ofL; have e1 := yearOf_cnt (y := σ 0 p1) (m := σ 1 p1) (by omega); have e2 := monOf_cnt (y := σ 0 p1) (m := σ 1 p1) (by omega); have e3 := lenOf_cnt (y := σ 0 p1) (m := σ 1 p1) (by omega); (try rw [e1]); (try rw [e2]); (try rw [e3]); simp [*]), gX_cast ⟨tb, tn, tm, htn, hfit, htm, by rw [ht]; exact hP⟩ (show (σ) = (σ) from by rfl)⟩, hS.F ht⟩, ex2_0 (by (simp only [inb, noThing_iff, noThing_niff, Bool.not_eq_true', Bool.not_eq_false', Bool.or_eq_true, Bool.or_eq_false_iff, decide_eq_true_eq, decide_eq_false_iff_not] <;> omega)) (by (simp only [inb, noThing_iff, noThing_niff, Bool.not_eq_true', Bool.not_eq_false', Bool.or_eq_true, Bool.or_eq_false_iff, decide_eq_true_eq, decide_eq_false_iff_not] <;> omega))⟩) hS.2.2 dX1_ofLeaf_113

abbrev ww_X1_ofYear : List Cond := .code yX1_ofYear cX1_ofYear 4 (some .int) :: gT
set_option maxHeartbeats 4000000 in
set_option maxRecDepth 100000 in
theorem c_X1_ofYear (l : Launch) (hst : l.stackTraces = false) (dC : Nat → ClassId) (dI : Nat → Nat → Nat) (dA : Nat → ClassId) (k : Nat → Nat) (q : Nat → Nat) (σ : Nat → Nat → Int) (H0 : Heap) (hG : gX dC dI dA q σ H0) (hOK : kOK σ) (hq : kQI q k) (z1 : Int) (w0 : Int) (rz1 : -2147483648 ≤ z1 ∧ z1 < 2147483648) (rw0 : -2147483648 ≤ w0 ∧ w0 < 2147483648) : vx_Met l yX1_ofYear ww_X1_ofYear ({ frames := 9, cells := 2, slots := 12, locals := 322 }) (va_Pc [.ref (q 0), .int (iZ z1), .int (iZ w0)] (fun U => U.heap = H0 ∧ kM dC dI dA k U)) (kQ2x (ex2 (!inb z1 0 3) (!inb w0 0 4) = 0) (some (.int (iZ (ofY σ (z1.toNat) w0)))) (gX dC dI dA q (σ)) (kA q H0.size)) (kXC (fun E => (ex2 (!inb z1 0 3) (!inb w0 0 4) = 1 ∧ E = "java/lang/IndexOutOfBoundsException") ∨ (ex2 (!inb z1 0 3) (!inb w0 0 4) = 2 ∧ E = "java/lang/IllegalArgumentException"))) 2 12 (kA q H0.size) := by
  refine vx_ofW (cc := cX1_ofYear) (maxL := 4) (ret := (some .int)) (by decide) rfl ?_
  intro p e s m args below meth c s₁ B hml hno hv
  obtain ⟨rfl, hH, hM⟩ := hv
  subst hH
  have hB := hM.2.1
  obtain ⟨tb, tn, tm, htn, hfit, htm, hP⟩ := hG
  have hS : va_S (kA q s.heap.size) s.heap s.heap [] := va_S.rf
  have hx := B.exec
  have hb := B.bytes
  have hr := B.returns
  have hts := atoms_spec (ws := ww_X1_ofYear) B.pre
  have hown : s.vm.findClass RX1 = some m.cls := findClass_of_methodNamed B.named
  have hlocks := B.notSynchronized
  have hl := lv_entry ([.ref (q 0), .int (iZ z1), .int (iZ w0)]) (n := 4) (Nat.le_of_ble_eq_true rfl)
  rw [lg_entry_eq]
  generalize (lg_sl ([.ref (q 0), .int (iZ z1), .int (iZ w0)]) ++ List.replicate (4 - (lg_sl ([.ref (q 0), .int (iZ z1), .int (iZ w0)])).length) Slot.unset).toArray = ls at hl ⊢
  have hl : lv_has ls 4 [(0, .ref (q 0)), (1, .int (iZ z1)), (2, .int (iZ w0))] := hl
  refine lv_iload_n hx hb dX1_ofYear_0 rfl (lv_at hl 1 rfl) ?_
  refine kcxo (fun _ q => q) (vx_runS (As := [.int (iZ z1)]) (rest := []) ⟨hx, hb, hml, hown, hts⟩ (c_X1_needPlace l hst k _ (z1) (by omega)) (va_cwS 1 hts (kg_S mw224 mw225 mw42 rfl mw226) rfl rfl rfl hdS_X1_needPlace ⟨Nat.le_of_ble_eq_true rfl, Nat.le_of_ble_eq_true rfl⟩) ⟨fun a U g mk q => ⟨q.1, q.2.1, kB_call q.2.2⟩, fun U hU hW => ⟨rfl, hU, kB_same hB hU hW⟩⟩ rfl rfl hl.1 rfl (lv_room (Nat.le_of_ble_eq_true rfl)) dX1_ofYear_1 ⟨Nat.le_of_ble_eq_true rfl, Nat.le_of_ble_eq_true rfl⟩) hno hlocks (fun E h => Or.inl ⟨ex2_1 (by have h9 := h.2; (simp only [inb, noThing_iff, noThing_niff, Bool.not_eq_true', Bool.not_eq_false', Bool.or_eq_true, Bool.or_eq_false_iff, decide_eq_true_eq, decide_eq_false_iff_not] <;> omega)), h.1⟩) (Nat.le_of_ble_eq_true rfl) (Nat.le_of_ble_eq_true rfl) (fun g_1 => ?_)
  have g_1 : 0 ≤ (z1) ∧ (z1) ≤ 3 := g_1
  obtain ⟨p1, hp1, rfl⟩ : ∃ p1 : Nat, p1 < 4 ∧ z1 = (p1 : Int) := ⟨z1.toNat, by omega, by omega⟩
  have o_p1 := kOKr hOK hp1
  refine lv_iload_n hx hb dX1_ofYear_4 rfl (lv_at hl 2 rfl) ?_
  refine lv_iconst (v := iZ 0) hx hb dX1_ofYear_5 rfl ?_
  refine lv_iconst (v := iZ 4) hx hb dX1_ofYear_6 rfl ?_
  refine kcxo (fun _ q => q) (vx_runS (As := [.int (iZ w0), .int (iZ 0), .int (iZ 4)]) (rest := []) ⟨hx, hb, hml, hown, hts⟩ (c_X1_needWithin l hst k _ (w0) (0) (4) (by omega) (by omega) (by omega)) (va_cwS 3 hts (kg_S mw228 mw229 mw42 rfl mw230) rfl rfl rfl hdS_X1_needWithin ⟨Nat.le_of_ble_eq_true rfl, Nat.le_of_ble_eq_true rfl⟩) ⟨fun a U g mk q => ⟨q.1, q.2.1, kB_call q.2.2⟩, fun U hU hW => ⟨rfl, hU, kB_same hB hU hW⟩⟩ rfl rfl hl.1 rfl (lv_room (Nat.le_of_ble_eq_true rfl)) dX1_ofYear_7 ⟨Nat.le_of_ble_eq_true rfl, Nat.le_of_ble_eq_true rfl⟩) hno hlocks (fun E h => Or.inr ⟨ex2_2 (by (simp only [inb, noThing_iff, noThing_niff, Bool.not_eq_true', Bool.not_eq_false', Bool.or_eq_true, Bool.or_eq_false_iff, decide_eq_true_eq, decide_eq_false_iff_not] <;> omega)) (by have h9 := h.2; (simp only [inb, noThing_iff, noThing_niff, Bool.not_eq_true', Bool.not_eq_false', Bool.or_eq_true, Bool.or_eq_false_iff, decide_eq_true_eq, decide_eq_false_iff_not] <;> omega)), h.1⟩) (Nat.le_of_ble_eq_true rfl) (Nat.le_of_ble_eq_true rfl) (fun g_2 => ?_)
  have g_2 : (0) ≤ (w0) ∧ (w0) ≤ (4) := g_2
  refine lv_aload_n hx hb dX1_ofYear_10 rfl (lv_at hl 0 rfl) ?_
  refine va_get (D := (dC, dI)) (ci := 4) (v := .ref (q 2)) (C := RX1) (T := TX1) (N := 8) hx hb hts (fun w h => List.mem_cons_of_mem _ (gF_0_in h)) hown hM.1 hP 0 rfl rfl 1 (by decide) (hts _ (List.mem_cons_of_mem _ mw98)) (fun _ h9 => h9) rfl dX1_ofYear_11 ?_
  refine lv_iload_n hx hb dX1_ofYear_14 rfl (lv_at hl 1 rfl) ?_
  refine kz_iald (v := σ 2 p1) hx hb hM.1 hP 2 0 rfl rfl (by omega) (by decide) rfl dX1_ofYear_15 ?_
  refine lv_istore_n (lv' := [(3, .int (iZ (σ 2 p1))), (0, .ref (q 0)), (1, .int (iZ ((p1 : Nat) : Int))), (2, .int (iZ w0))]) hx hb dX1_ofYear_16 rfl hl (by decide) rfl (fun ls hl => ?_)
  refine lv_iload_n hx hb dX1_ofYear_17 rfl (lv_at hl 3 rfl) ?_
  by_cases c_3 : w0 = 0
  · refine lv_tableIn (tgt := 48) (off := 30) hx hb dX1_ofYear_18 (by rw [iZ_toInt (z := w0) (by omega)]; omega) (by rw [iZ_toInt (z := w0) (by omega)]; omega) (by rw [iZ_toInt (z := w0) (by omega), show w0 = 0 from by omega]; rfl) (by decide) ?_
    refine lv_iload_n hx hb dX1_ofYear_48 rfl (lv_at hl 0 rfl) ?_
    refine W.widen (k := 2) (n := 12) (Nat.le_of_ble_eq_true rfl) (Nat.le_of_ble_eq_true rfl) ?_
    refine vx_ret ?_
    exact W.iret (v := iZ (σ 2 p1)) hx hb hr (fun t ht hW => ⟨⟨⟨congrArg (fun z : Int => Outcome.returned (some (Value.int (iZ z)))) (show (σ 2 p1) = (ofY σ p1 w0) from by unfold ofY; simp [*]), gX_cast ⟨tb, tn, tm, htn, hfit, htm, by rw [ht]; exact hP⟩ (show (σ) = (σ) from by rfl)⟩, hS.F ht⟩, ex2_0 (by (simp only [inb, noThing_iff, noThing_niff, Bool.not_eq_true', Bool.not_eq_false', Bool.or_eq_true, Bool.or_eq_false_iff, decide_eq_true_eq, decide_eq_false_iff_not] <;> omega)) (by (simp only [inb, noThing_iff, noThing_niff, Bool.not_eq_true', Bool.not_eq_false', Bool.or_eq_true, Bool.or_eq_false_iff, decide_eq_true_eq, decide_eq_false_iff_not] <;> omega))⟩) hS.2.2 dX1_ofYear_49
  by_cases c_4 : w0 = 1
  · refine lv_tableIn (tgt := 50) (off := 32) hx hb dX1_ofYear_18 (by rw [iZ_toInt (z := w0) (by omega)]; omega) (by rw [iZ_toInt (z := w0) (by omega)]; omega) (by rw [iZ_toInt (z := w0) (by omega), show w0 = 1 from by omega]; rfl) (by decide) ?_
    refine lv_iload_n hx hb dX1_ofYear_50 rfl (lv_at hl 0 rfl) ?_
    refine kz_i2l hx hb (by omega) dX1_ofYear_51 ?_
    refine kc0 (fun _ q => q) (va_runS (As := [.long (lZ ((σ 2 p1)))]) (rest := []) ⟨hx, hb, hml, hown, hts⟩ (c_X0_isLeapNumber l _ (((σ 2 p1))) (by omega)) (va_cwS 1 hts (kg_S mw109 mw110 mw51 rfl mw111) rfl rfl rfl hdS_X0_isLeapNumber ⟨Nat.le_of_ble_eq_true rfl, Nat.le_of_ble_eq_true rfl⟩) ⟨fun a U g mk q => q, fun U hU hW => ⟨rfl, hU⟩⟩ rfl rfl hl.1 rfl (lv_room (Nat.le_of_ble_eq_true rfl)) dX1_ofYear_52 ⟨Nat.le_of_ble_eq_true rfl, Nat.le_of_ble_eq_true rfl⟩) ?_
    refine kc0 (fun _ q => q) (va_runS (As := [.int (iZ (bZ (leap ((((σ 2 p1)))))))]) (rest := []) ⟨hx, hb, hml, hown, hts⟩ (c_X1_oneIf l _ (leap ((((σ 2 p1)))))) (va_cwS 1 hts (kg_S mw176 mw177 mw42 rfl mw178) rfl rfl rfl hdS_X1_oneIf ⟨Nat.le_of_ble_eq_true rfl, Nat.le_of_ble_eq_true rfl⟩) ⟨fun a U g mk q => q, fun U hU hW => ⟨rfl, hU⟩⟩ rfl rfl hl.1 rfl (lv_room (Nat.le_of_ble_eq_true rfl)) dX1_ofYear_55 ⟨Nat.le_of_ble_eq_true rfl, Nat.le_of_ble_eq_true rfl⟩) ?_
    refine W.widen (k := 2) (n := 12) (Nat.le_of_ble_eq_true rfl) (Nat.le_of_ble_eq_true rfl) ?_
    refine vx_ret ?_
    exact W.iret (v := iZ (bZ ((leap ((((σ 2 p1)))))))) hx hb hr (fun t ht hW => ⟨⟨⟨congrArg (fun z : Int => Outcome.returned (some (Value.int (iZ z)))) (show (bZ ((leap ((((σ 2 p1))))))) = (ofY σ p1 w0) from by unfold ofY; simp [*]), gX_cast ⟨tb, tn, tm, htn, hfit, htm, by rw [ht]; exact hP⟩ (show (σ) = (σ) from by rfl)⟩, hS.F ht⟩, ex2_0 (by (simp only [inb, noThing_iff, noThing_niff, Bool.not_eq_true', Bool.not_eq_false', Bool.or_eq_true, Bool.or_eq_false_iff, decide_eq_true_eq, decide_eq_false_iff_not] <;> omega)) (by (simp only [inb, noThing_iff, noThing_niff, Bool.not_eq_true', Bool.not_eq_false', Bool.or_eq_true, Bool.or_eq_false_iff, decide_eq_true_eq, decide_eq_false_iff_not] <;> omega))⟩) hS.2.2 dX1_ofYear_58
  by_cases c_5 : w0 = 2
  · refine lv_tableIn (tgt := 59) (off := 41) hx hb dX1_ofYear_18 (by rw [iZ_toInt (z := w0) (by omega)]; omega) (by rw [iZ_toInt (z := w0) (by omega)]; omega) (by rw [iZ_toInt (z := w0) (by omega), show w0 = 2 from by omega]; rfl) (by decide) ?_
    refine lv_iload_n hx hb dX1_ofYear_59 rfl (lv_at hl 0 rfl) ?_
    refine kz_i2l hx hb (by omega) dX1_ofYear_60 ?_
    refine kc0 (fun _ q => q) (va_runS (As := [.long (lZ ((σ 2 p1)))]) (rest := []) ⟨hx, hb, hml, hown, hts⟩ (c_X0_yearLength l _ (((σ 2 p1))) (by omega)) (va_cwS 1 hts (kg_S mw182 mw183 mw51 rfl mw184) rfl rfl rfl hdS_X0_yearLength ⟨Nat.le_of_ble_eq_true rfl, Nat.le_of_ble_eq_true rfl⟩) ⟨fun a U g mk q => q, fun U hU hW => ⟨rfl, hU⟩⟩ rfl rfl hl.1 rfl (lv_room (Nat.le_of_ble_eq_true rfl)) dX1_ofYear_61 ⟨Nat.le_of_ble_eq_true rfl, Nat.le_of_ble_eq_true rfl⟩) ?_
    refine W.widen (k := 2) (n := 12) (Nat.le_of_ble_eq_true rfl) (Nat.le_of_ble_eq_true rfl) ?_
    refine vx_ret ?_
    exact W.iret (v := iZ (ylen ((((σ 2 p1)))))) hx hb hr (fun t ht hW => ⟨⟨⟨congrArg (fun z : Int => Outcome.returned (some (Value.int (iZ z)))) (show (ylen ((((σ 2 p1))))) = (ofY σ p1 w0) from by unfold ofY; simp [*]), gX_cast ⟨tb, tn, tm, htn, hfit, htm, by rw [ht]; exact hP⟩ (show (σ) = (σ) from by rfl)⟩, hS.F ht⟩, ex2_0 (by (simp only [inb, noThing_iff, noThing_niff, Bool.not_eq_true', Bool.not_eq_false', Bool.or_eq_true, Bool.or_eq_false_iff, decide_eq_true_eq, decide_eq_false_iff_not] <;> omega)) (by (simp only [inb, noThing_iff, noThing_niff, Bool.not_eq_true', Bool.not_eq_false', Bool.or_eq_true, Bool.or_eq_false_iff, decide_eq_true_eq, decide_eq_false_iff_not] <;> omega))⟩) hS.2.2 dX1_ofYear_64
  by_cases c_6 : w0 = 3
  · refine lv_tableIn (tgt := 65) (off := 47) hx hb dX1_ofYear_18 (by rw [iZ_toInt (z := w0) (by omega)]; omega) (by rw [iZ_toInt (z := w0) (by omega)]; omega) (by rw [iZ_toInt (z := w0) (by omega), show w0 = 3 from by omega]; rfl) (by decide) ?_
    refine lv_iload_n hx hb dX1_ofYear_65 rfl (lv_at hl 0 rfl) ?_
    refine kc0 (fun _ q => q) (va_runS (As := [.int (iZ (σ 2 p1))]) (rest := []) ⟨hx, hb, hml, hown, hts⟩ (c_X0_rankOf l _ ((σ 2 p1)) (by omega)) (va_cwS 1 hts (kg_S mw232 mw233 mw51 rfl mw234) rfl rfl rfl hdS_X0_rankOf ⟨Nat.le_of_ble_eq_true rfl, Nat.le_of_ble_eq_true rfl⟩) ⟨fun a U g mk q => q, fun U hU hW => ⟨rfl, hU⟩⟩ rfl rfl hl.1 rfl (lv_room (Nat.le_of_ble_eq_true rfl)) dX1_ofYear_66 ⟨Nat.le_of_ble_eq_true rfl, Nat.le_of_ble_eq_true rfl⟩) ?_
    refine W.widen (k := 2) (n := 12) (Nat.le_of_ble_eq_true rfl) (Nat.le_of_ble_eq_true rfl) ?_
    refine vx_ret ?_
    exact W.iret (v := iZ (rank (((σ 2 p1))))) hx hb hr (fun t ht hW => ⟨⟨⟨congrArg (fun z : Int => Outcome.returned (some (Value.int (iZ z)))) (show (rank (((σ 2 p1)))) = (ofY σ p1 w0) from by unfold ofY; simp [*]), gX_cast ⟨tb, tn, tm, htn, hfit, htm, by rw [ht]; exact hP⟩ (show (σ) = (σ) from by rfl)⟩, hS.F ht⟩, ex2_0 (by (simp only [inb, noThing_iff, noThing_niff, Bool.not_eq_true', Bool.not_eq_false', Bool.or_eq_true, Bool.or_eq_false_iff, decide_eq_true_eq, decide_eq_false_iff_not] <;> omega)) (by (simp only [inb, noThing_iff, noThing_niff, Bool.not_eq_true', Bool.not_eq_false', Bool.or_eq_true, Bool.or_eq_false_iff, decide_eq_true_eq, decide_eq_false_iff_not] <;> omega))⟩) hS.2.2 dX1_ofYear_69
  refine lv_tableOut (tgt := 70) hx hb dX1_ofYear_18 (by rw [iZ_toInt (z := w0) (by omega)]; omega) (by decide) ?_
  refine lv_iload_n hx hb dX1_ofYear_70 rfl (lv_at hl 0 rfl) ?_
  refine kc0 (fun _ q => q) (va_runS (As := [.int (iZ (σ 2 p1))]) (rest := []) ⟨hx, hb, hml, hown, hts⟩ (c_X0_sideOf l _ ((σ 2 p1)) (by omega)) (va_cwS 1 hts (kg_S mw235 mw236 mw51 rfl mw237) rfl rfl rfl hdS_X0_sideOf ⟨Nat.le_of_ble_eq_true rfl, Nat.le_of_ble_eq_true rfl⟩) ⟨fun a U g mk q => q, fun U hU hW => ⟨rfl, hU⟩⟩ rfl rfl hl.1 rfl (lv_room (Nat.le_of_ble_eq_true rfl)) dX1_ofYear_71 ⟨Nat.le_of_ble_eq_true rfl, Nat.le_of_ble_eq_true rfl⟩) ?_
  refine W.widen (k := 2) (n := 12) (Nat.le_of_ble_eq_true rfl) (Nat.le_of_ble_eq_true rfl) ?_
  refine vx_ret ?_
  exact W.iret (v := iZ (side (((σ 2 p1))))) hx hb hr (fun t ht hW => ⟨⟨⟨congrArg (fun z : Int => Outcome.returned (some (Value.int (iZ z)))) (show (side (((σ 2 p1)))) = (ofY σ p1 w0) from by unfold ofY; simp [*]), gX_cast ⟨tb, tn, tm, htn, hfit, htm, by rw [ht]; exact hP⟩ (show (σ) = (σ) from by rfl)⟩, hS.F ht⟩, ex2_0 (by (simp only [inb, noThing_iff, noThing_niff, Bool.not_eq_true', Bool.not_eq_false', Bool.or_eq_true, Bool.or_eq_false_iff, decide_eq_true_eq, decide_eq_false_iff_not] <;> omega)) (by (simp only [inb, noThing_iff, noThing_niff, Bool.not_eq_true', Bool.not_eq_false', Bool.or_eq_true, Bool.or_eq_false_iff, decide_eq_true_eq, decide_eq_false_iff_not] <;> omega))⟩) hS.2.2 dX1_ofYear_74

abbrev ww_X1_ofFeast : List Cond := .code yX1_ofFeast cX1_ofFeast 3 (some .int) :: gT
set_option maxHeartbeats 4000000 in
set_option maxRecDepth 100000 in
theorem c_X1_ofFeast (l : Launch) (hst : l.stackTraces = false) (dC : Nat → ClassId) (dI : Nat → Nat → Nat) (dA : Nat → ClassId) (k : Nat → Nat) (q : Nat → Nat) (σ : Nat → Nat → Int) (H0 : Heap) (hG : gX dC dI dA q σ H0) (hOK : kOK σ) (hq : kQI q k) (z1 : Int) (w0 : Int) (rz1 : -2147483648 ≤ z1 ∧ z1 < 2147483648) (rw0 : -2147483648 ≤ w0 ∧ w0 < 2147483648) : vx_Met l yX1_ofFeast ww_X1_ofFeast ({ frames := 9, cells := 2, slots := 12, locals := 322 }) (va_Pc [.ref (q 0), .int (iZ z1), .int (iZ w0)] (fun U => U.heap = H0 ∧ kM dC dI dA k U)) (kQ2x (ex2 (!inb z1 0 3) (!inb w0 0 4) = 0) (some (.int (iZ (ofF σ (z1.toNat) w0)))) (gX dC dI dA q (σ)) (kA q H0.size)) (kXC (fun E => (ex2 (!inb z1 0 3) (!inb w0 0 4) = 1 ∧ E = "java/lang/IndexOutOfBoundsException") ∨ (ex2 (!inb z1 0 3) (!inb w0 0 4) = 2 ∧ E = "java/lang/IllegalArgumentException"))) 2 12 (kA q H0.size) := by
  refine vx_ofW (cc := cX1_ofFeast) (maxL := 3) (ret := (some .int)) (by decide) rfl ?_
  intro p e s m args below meth c s₁ B hml hno hv
  obtain ⟨rfl, hH, hM⟩ := hv
  subst hH
  have hB := hM.2.1
  obtain ⟨tb, tn, tm, htn, hfit, htm, hP⟩ := hG
  have hS : va_S (kA q s.heap.size) s.heap s.heap [] := va_S.rf
  have hx := B.exec
  have hb := B.bytes
  have hr := B.returns
  have hts := atoms_spec (ws := ww_X1_ofFeast) B.pre
  have hown : s.vm.findClass RX1 = some m.cls := findClass_of_methodNamed B.named
  have hlocks := B.notSynchronized
  have hl := lv_entry ([.ref (q 0), .int (iZ z1), .int (iZ w0)]) (n := 3) (Nat.le_of_ble_eq_true rfl)
  rw [lg_entry_eq]
  generalize (lg_sl ([.ref (q 0), .int (iZ z1), .int (iZ w0)]) ++ List.replicate (3 - (lg_sl ([.ref (q 0), .int (iZ z1), .int (iZ w0)])).length) Slot.unset).toArray = ls at hl ⊢
  have hl : lv_has ls 3 [(0, .ref (q 0)), (1, .int (iZ z1)), (2, .int (iZ w0))] := hl
  refine lv_iload_n hx hb dX1_ofFeast_0 rfl (lv_at hl 1 rfl) ?_
  refine kcxo (fun _ q => q) (vx_runS (As := [.int (iZ z1)]) (rest := []) ⟨hx, hb, hml, hown, hts⟩ (c_X1_needPlace l hst k _ (z1) (by omega)) (va_cwS 1 hts (kg_S mw224 mw225 mw42 rfl mw226) rfl rfl rfl hdS_X1_needPlace ⟨Nat.le_of_ble_eq_true rfl, Nat.le_of_ble_eq_true rfl⟩) ⟨fun a U g mk q => ⟨q.1, q.2.1, kB_call q.2.2⟩, fun U hU hW => ⟨rfl, hU, kB_same hB hU hW⟩⟩ rfl rfl hl.1 rfl (lv_room (Nat.le_of_ble_eq_true rfl)) dX1_ofFeast_1 ⟨Nat.le_of_ble_eq_true rfl, Nat.le_of_ble_eq_true rfl⟩) hno hlocks (fun E h => Or.inl ⟨ex2_1 (by have h9 := h.2; (simp only [inb, noThing_iff, noThing_niff, Bool.not_eq_true', Bool.not_eq_false', Bool.or_eq_true, Bool.or_eq_false_iff, decide_eq_true_eq, decide_eq_false_iff_not] <;> omega)), h.1⟩) (Nat.le_of_ble_eq_true rfl) (Nat.le_of_ble_eq_true rfl) (fun g_1 => ?_)
  have g_1 : 0 ≤ (z1) ∧ (z1) ≤ 3 := g_1
  obtain ⟨p1, hp1, rfl⟩ : ∃ p1 : Nat, p1 < 4 ∧ z1 = (p1 : Int) := ⟨z1.toNat, by omega, by omega⟩
  have o_p1 := kOKr hOK hp1
  refine lv_iload_n hx hb dX1_ofFeast_4 rfl (lv_at hl 2 rfl) ?_
  refine lv_iconst (v := iZ 0) hx hb dX1_ofFeast_5 rfl ?_
  refine lv_iconst (v := iZ 4) hx hb dX1_ofFeast_6 rfl ?_
  refine kcxo (fun _ q => q) (vx_runS (As := [.int (iZ w0), .int (iZ 0), .int (iZ 4)]) (rest := []) ⟨hx, hb, hml, hown, hts⟩ (c_X1_needWithin l hst k _ (w0) (0) (4) (by omega) (by omega) (by omega)) (va_cwS 3 hts (kg_S mw228 mw229 mw42 rfl mw230) rfl rfl rfl hdS_X1_needWithin ⟨Nat.le_of_ble_eq_true rfl, Nat.le_of_ble_eq_true rfl⟩) ⟨fun a U g mk q => ⟨q.1, q.2.1, kB_call q.2.2⟩, fun U hU hW => ⟨rfl, hU, kB_same hB hU hW⟩⟩ rfl rfl hl.1 rfl (lv_room (Nat.le_of_ble_eq_true rfl)) dX1_ofFeast_7 ⟨Nat.le_of_ble_eq_true rfl, Nat.le_of_ble_eq_true rfl⟩) hno hlocks (fun E h => Or.inr ⟨ex2_2 (by (simp only [inb, noThing_iff, noThing_niff, Bool.not_eq_true', Bool.not_eq_false', Bool.or_eq_true, Bool.or_eq_false_iff, decide_eq_true_eq, decide_eq_false_iff_not] <;> omega)) (by have h9 := h.2; (simp only [inb, noThing_iff, noThing_niff, Bool.not_eq_true', Bool.not_eq_false', Bool.or_eq_true, Bool.or_eq_false_iff, decide_eq_true_eq, decide_eq_false_iff_not] <;> omega)), h.1⟩) (Nat.le_of_ble_eq_true rfl) (Nat.le_of_ble_eq_true rfl) (fun g_2 => ?_)
  have g_2 : (0) ≤ (w0) ∧ (w0) ≤ (4) := g_2
  refine lv_iload_n hx hb dX1_ofFeast_10 rfl (lv_at hl 2 rfl) ?_
  by_cases c_3 : w0 = 1
  · refine lv_tableIn (tgt := 40) (off := 29) hx hb dX1_ofFeast_11 (by rw [iZ_toInt (z := w0) (by omega)]; omega) (by rw [iZ_toInt (z := w0) (by omega)]; omega) (by rw [iZ_toInt (z := w0) (by omega), show w0 = 1 from by omega]; rfl) (by decide) ?_
    refine lv_aload_n hx hb dX1_ofFeast_40 rfl (lv_at hl 0 rfl) ?_
    refine va_get (D := (dC, dI)) (ci := 4) (v := .ref (q 4)) (C := RX1) (T := TX1) (N := 8) hx hb hts (fun w h => List.mem_cons_of_mem _ (gF_0_in h)) hown hM.1 hP 0 rfl rfl 3 (by decide) (hts _ (List.mem_cons_of_mem _ mw100)) (fun _ h9 => h9) rfl dX1_ofFeast_41 ?_
    refine lv_iload_n hx hb dX1_ofFeast_44 rfl (lv_at hl 1 rfl) ?_
    refine kz_iald (v := σ 4 p1) hx hb hM.1 hP 4 0 rfl rfl (by omega) (by decide) rfl dX1_ofFeast_45 ?_
    refine W.widen (k := 2) (n := 12) (Nat.le_of_ble_eq_true rfl) (Nat.le_of_ble_eq_true rfl) ?_
    refine vx_ret ?_
    exact W.iret (v := iZ (σ 4 p1)) hx hb hr (fun t ht hW => ⟨⟨⟨congrArg (fun z : Int => Outcome.returned (some (Value.int (iZ z)))) (show (σ 4 p1) = (ofF σ p1 w0) from by unfold ofF; simp [*]), gX_cast ⟨tb, tn, tm, htn, hfit, htm, by rw [ht]; exact hP⟩ (show (σ) = (σ) from by rfl)⟩, hS.F ht⟩, ex2_0 (by (simp only [inb, noThing_iff, noThing_niff, Bool.not_eq_true', Bool.not_eq_false', Bool.or_eq_true, Bool.or_eq_false_iff, decide_eq_true_eq, decide_eq_false_iff_not] <;> omega)) (by (simp only [inb, noThing_iff, noThing_niff, Bool.not_eq_true', Bool.not_eq_false', Bool.or_eq_true, Bool.or_eq_false_iff, decide_eq_true_eq, decide_eq_false_iff_not] <;> omega))⟩) hS.2.2 dX1_ofFeast_46
  by_cases c_4 : w0 = 2
  · refine lv_tableIn (tgt := 69) (off := 58) hx hb dX1_ofFeast_11 (by rw [iZ_toInt (z := w0) (by omega)]; omega) (by rw [iZ_toInt (z := w0) (by omega)]; omega) (by rw [iZ_toInt (z := w0) (by omega), show w0 = 2 from by omega]; rfl) (by decide) ?_
    refine lv_aload_n hx hb dX1_ofFeast_69 rfl (lv_at hl 0 rfl) ?_
    refine va_get (D := (dC, dI)) (ci := 4) (v := .ref (q 3)) (C := RX1) (T := TX1) (N := 8) hx hb hts (fun w h => List.mem_cons_of_mem _ (gF_0_in h)) hown hM.1 hP 0 rfl rfl 2 (by decide) (hts _ (List.mem_cons_of_mem _ mw99)) (fun _ h9 => h9) rfl dX1_ofFeast_70 ?_
    refine lv_iload_n hx hb dX1_ofFeast_73 rfl (lv_at hl 1 rfl) ?_
    refine kz_iald (v := σ 3 p1) hx hb hM.1 hP 3 0 rfl rfl (by omega) (by decide) rfl dX1_ofFeast_74 ?_
    refine W.widen (k := 2) (n := 12) (Nat.le_of_ble_eq_true rfl) (Nat.le_of_ble_eq_true rfl) ?_
    refine vx_ret ?_
    exact W.iret (v := iZ (σ 3 p1)) hx hb hr (fun t ht hW => ⟨⟨⟨congrArg (fun z : Int => Outcome.returned (some (Value.int (iZ z)))) (show (σ 3 p1) = (ofF σ p1 w0) from by unfold ofF; simp [*]), gX_cast ⟨tb, tn, tm, htn, hfit, htm, by rw [ht]; exact hP⟩ (show (σ) = (σ) from by rfl)⟩, hS.F ht⟩, ex2_0 (by (simp only [inb, noThing_iff, noThing_niff, Bool.not_eq_true', Bool.not_eq_false', Bool.or_eq_true, Bool.or_eq_false_iff, decide_eq_true_eq, decide_eq_false_iff_not] <;> omega)) (by (simp only [inb, noThing_iff, noThing_niff, Bool.not_eq_true', Bool.not_eq_false', Bool.or_eq_true, Bool.or_eq_false_iff, decide_eq_true_eq, decide_eq_false_iff_not] <;> omega))⟩) hS.2.2 dX1_ofFeast_75
  by_cases c_5 : w0 = 3
  · refine lv_tableIn (tgt := 47) (off := 36) hx hb dX1_ofFeast_11 (by rw [iZ_toInt (z := w0) (by omega)]; omega) (by rw [iZ_toInt (z := w0) (by omega)]; omega) (by rw [iZ_toInt (z := w0) (by omega), show w0 = 3 from by omega]; rfl) (by decide) ?_
    refine lv_aload_n hx hb dX1_ofFeast_47 rfl (lv_at hl 0 rfl) ?_
    refine va_get (D := (dC, dI)) (ci := 4) (v := .ref (q 3)) (C := RX1) (T := TX1) (N := 8) hx hb hts (fun w h => List.mem_cons_of_mem _ (gF_0_in h)) hown hM.1 hP 0 rfl rfl 2 (by decide) (hts _ (List.mem_cons_of_mem _ mw99)) (fun _ h9 => h9) rfl dX1_ofFeast_48 ?_
    refine lv_iload_n hx hb dX1_ofFeast_51 rfl (lv_at hl 1 rfl) ?_
    refine kz_iald (v := σ 3 p1) hx hb hM.1 hP 3 0 rfl rfl (by omega) (by decide) rfl dX1_ofFeast_52 ?_
    refine lv_iconst (v := iZ 0) hx hb dX1_ofFeast_53 rfl ?_
    refine kc0 (fun _ q => q) (va_runS (As := [.int (iZ (σ 3 p1)), .int (iZ (bZ false))]) (rest := []) ⟨hx, hb, hml, hown, hts⟩ (c_X0_monthLength l _ ((σ 3 p1)) false (by omega)) (va_cwS 2 hts (kg_S mw541 mw150 mw51 rfl mw151) rfl rfl rfl hdS_X0_monthLength ⟨Nat.le_of_ble_eq_true rfl, Nat.le_of_ble_eq_true rfl⟩) ⟨fun a U g mk q => q, fun U hU hW => ⟨rfl, hU⟩⟩ rfl rfl hl.1 rfl (lv_room (Nat.le_of_ble_eq_true rfl)) dX1_ofFeast_54 ⟨Nat.le_of_ble_eq_true rfl, Nat.le_of_ble_eq_true rfl⟩) ?_
    refine W.widen (k := 2) (n := 12) (Nat.le_of_ble_eq_true rfl) (Nat.le_of_ble_eq_true rfl) ?_
    refine vx_ret ?_
    exact W.iret (v := iZ (mlen false (((σ 3 p1))))) hx hb hr (fun t ht hW => ⟨⟨⟨congrArg (fun z : Int => Outcome.returned (some (Value.int (iZ z)))) (show (mlen false (((σ 3 p1)))) = (ofF σ p1 w0) from by unfold ofF; simp [*]), gX_cast ⟨tb, tn, tm, htn, hfit, htm, by rw [ht]; exact hP⟩ (show (σ) = (σ) from by rfl)⟩, hS.F ht⟩, ex2_0 (by (simp only [inb, noThing_iff, noThing_niff, Bool.not_eq_true', Bool.not_eq_false', Bool.or_eq_true, Bool.or_eq_false_iff, decide_eq_true_eq, decide_eq_false_iff_not] <;> omega)) (by (simp only [inb, noThing_iff, noThing_niff, Bool.not_eq_true', Bool.not_eq_false', Bool.or_eq_true, Bool.or_eq_false_iff, decide_eq_true_eq, decide_eq_false_iff_not] <;> omega))⟩) hS.2.2 dX1_ofFeast_57
  by_cases c_6 : w0 = 4
  · refine lv_tableIn (tgt := 58) (off := 47) hx hb dX1_ofFeast_11 (by rw [iZ_toInt (z := w0) (by omega)]; omega) (by rw [iZ_toInt (z := w0) (by omega)]; omega) (by rw [iZ_toInt (z := w0) (by omega), show w0 = 4 from by omega]; rfl) (by decide) ?_
    refine lv_aload_n hx hb dX1_ofFeast_58 rfl (lv_at hl 0 rfl) ?_
    refine va_get (D := (dC, dI)) (ci := 4) (v := .ref (q 3)) (C := RX1) (T := TX1) (N := 8) hx hb hts (fun w h => List.mem_cons_of_mem _ (gF_0_in h)) hown hM.1 hP 0 rfl rfl 2 (by decide) (hts _ (List.mem_cons_of_mem _ mw99)) (fun _ h9 => h9) rfl dX1_ofFeast_59 ?_
    refine lv_iload_n hx hb dX1_ofFeast_62 rfl (lv_at hl 1 rfl) ?_
    refine kz_iald (v := σ 3 p1) hx hb hM.1 hP 3 0 rfl rfl (by omega) (by decide) rfl dX1_ofFeast_63 ?_
    refine lv_iconst (v := iZ 1) hx hb dX1_ofFeast_64 rfl ?_
    refine kc0 (fun _ q => q) (va_runS (As := [.int (iZ (σ 3 p1)), .int (iZ (bZ true))]) (rest := []) ⟨hx, hb, hml, hown, hts⟩ (c_X0_monthLength l _ ((σ 3 p1)) true (by omega)) (va_cwS 2 hts (kg_S mw541 mw150 mw51 rfl mw151) rfl rfl rfl hdS_X0_monthLength ⟨Nat.le_of_ble_eq_true rfl, Nat.le_of_ble_eq_true rfl⟩) ⟨fun a U g mk q => q, fun U hU hW => ⟨rfl, hU⟩⟩ rfl rfl hl.1 rfl (lv_room (Nat.le_of_ble_eq_true rfl)) dX1_ofFeast_65 ⟨Nat.le_of_ble_eq_true rfl, Nat.le_of_ble_eq_true rfl⟩) ?_
    refine W.widen (k := 2) (n := 12) (Nat.le_of_ble_eq_true rfl) (Nat.le_of_ble_eq_true rfl) ?_
    refine vx_ret ?_
    exact W.iret (v := iZ (mlen true (((σ 3 p1))))) hx hb hr (fun t ht hW => ⟨⟨⟨congrArg (fun z : Int => Outcome.returned (some (Value.int (iZ z)))) (show (mlen true (((σ 3 p1)))) = (ofF σ p1 w0) from by unfold ofF; simp [*]), gX_cast ⟨tb, tn, tm, htn, hfit, htm, by rw [ht]; exact hP⟩ (show (σ) = (σ) from by rfl)⟩, hS.F ht⟩, ex2_0 (by (simp only [inb, noThing_iff, noThing_niff, Bool.not_eq_true', Bool.not_eq_false', Bool.or_eq_true, Bool.or_eq_false_iff, decide_eq_true_eq, decide_eq_false_iff_not] <;> omega)) (by (simp only [inb, noThing_iff, noThing_niff, Bool.not_eq_true', Bool.not_eq_false', Bool.or_eq_true, Bool.or_eq_false_iff, decide_eq_true_eq, decide_eq_false_iff_not] <;> omega))⟩) hS.2.2 dX1_ofFeast_68
  refine lv_tableOut (tgt := 69) hx hb dX1_ofFeast_11 (by rw [iZ_toInt (z := w0) (by omega)]; omega) (by decide) ?_
  refine lv_aload_n hx hb dX1_ofFeast_69 rfl (lv_at hl 0 rfl) ?_
  refine va_get (D := (dC, dI)) (ci := 4) (v := .ref (q 3)) (C := RX1) (T := TX1) (N := 8) hx hb hts (fun w h => List.mem_cons_of_mem _ (gF_0_in h)) hown hM.1 hP 0 rfl rfl 2 (by decide) (hts _ (List.mem_cons_of_mem _ mw99)) (fun _ h9 => h9) rfl dX1_ofFeast_70 ?_
  refine lv_iload_n hx hb dX1_ofFeast_73 rfl (lv_at hl 1 rfl) ?_
  refine kz_iald (v := σ 3 p1) hx hb hM.1 hP 3 0 rfl rfl (by omega) (by decide) rfl dX1_ofFeast_74 ?_
  refine W.widen (k := 2) (n := 12) (Nat.le_of_ble_eq_true rfl) (Nat.le_of_ble_eq_true rfl) ?_
  refine vx_ret ?_
  exact W.iret (v := iZ (σ 3 p1)) hx hb hr (fun t ht hW => ⟨⟨⟨congrArg (fun z : Int => Outcome.returned (some (Value.int (iZ z)))) (show (σ 3 p1) = (ofF σ p1 w0) from by unfold ofF; simp [*]), gX_cast ⟨tb, tn, tm, htn, hfit, htm, by rw [ht]; exact hP⟩ (show (σ) = (σ) from by rfl)⟩, hS.F ht⟩, ex2_0 (by (simp only [inb, noThing_iff, noThing_niff, Bool.not_eq_true', Bool.not_eq_false', Bool.or_eq_true, Bool.or_eq_false_iff, decide_eq_true_eq, decide_eq_false_iff_not] <;> omega)) (by (simp only [inb, noThing_iff, noThing_niff, Bool.not_eq_true', Bool.not_eq_false', Bool.or_eq_true, Bool.or_eq_false_iff, decide_eq_true_eq, decide_eq_false_iff_not] <;> omega))⟩) hS.2.2 dX1_ofFeast_75

abbrev ww_X1_ofDay : List Cond := .code yX1_ofDay cX1_ofDay 5 (some .int) :: gT
set_option maxHeartbeats 4000000 in
set_option maxRecDepth 100000 in
theorem c_X1_ofDay (l : Launch) (hst : l.stackTraces = false) (dC : Nat → ClassId) (dI : Nat → Nat → Nat) (dA : Nat → ClassId) (k : Nat → Nat) (q : Nat → Nat) (σ : Nat → Nat → Int) (H0 : Heap) (hG : gX dC dI dA q σ H0) (hOK : kOK σ) (hq : kQI q k) (z1 : Int) (w0 : Int) (rz1 : -2147483648 ≤ z1 ∧ z1 < 2147483648) (rw0 : -2147483648 ≤ w0 ∧ w0 < 2147483648) : vx_Met l yX1_ofDay ww_X1_ofDay ({ frames := 9, cells := 2, slots := 12, locals := 322 }) (va_Pc [.ref (q 0), .int (iZ z1), .int (iZ w0)] (fun U => U.heap = H0 ∧ kM dC dI dA k U)) (kQ2x (ex2 (!inb z1 0 3) (!inb w0 0 5) = 0) (some (.int (iZ (ofD σ (z1.toNat) w0)))) (gX dC dI dA q (σ)) (kA q H0.size)) (kXC (fun E => (ex2 (!inb z1 0 3) (!inb w0 0 5) = 1 ∧ E = "java/lang/IndexOutOfBoundsException") ∨ (ex2 (!inb z1 0 3) (!inb w0 0 5) = 2 ∧ E = "java/lang/IllegalArgumentException"))) 2 12 (kA q H0.size) := by
  refine vx_ofW (cc := cX1_ofDay) (maxL := 5) (ret := (some .int)) (by decide) rfl ?_
  intro p e s m args below meth c s₁ B hml hno hv
  obtain ⟨rfl, hH, hM⟩ := hv
  subst hH
  have hB := hM.2.1
  obtain ⟨tb, tn, tm, htn, hfit, htm, hP⟩ := hG
  have hS : va_S (kA q s.heap.size) s.heap s.heap [] := va_S.rf
  have hx := B.exec
  have hb := B.bytes
  have hr := B.returns
  have hts := atoms_spec (ws := ww_X1_ofDay) B.pre
  have hown : s.vm.findClass RX1 = some m.cls := findClass_of_methodNamed B.named
  have hlocks := B.notSynchronized
  have hl := lv_entry ([.ref (q 0), .int (iZ z1), .int (iZ w0)]) (n := 5) (Nat.le_of_ble_eq_true rfl)
  rw [lg_entry_eq]
  generalize (lg_sl ([.ref (q 0), .int (iZ z1), .int (iZ w0)]) ++ List.replicate (5 - (lg_sl ([.ref (q 0), .int (iZ z1), .int (iZ w0)])).length) Slot.unset).toArray = ls at hl ⊢
  have hl : lv_has ls 5 [(0, .ref (q 0)), (1, .int (iZ z1)), (2, .int (iZ w0))] := hl
  refine lv_iload_n hx hb dX1_ofDay_0 rfl (lv_at hl 1 rfl) ?_
  refine kcxo (fun _ q => q) (vx_runS (As := [.int (iZ z1)]) (rest := []) ⟨hx, hb, hml, hown, hts⟩ (c_X1_needPlace l hst k _ (z1) (by first | omega | (have e1 := yearOf_cnt (y := σ 5 p1) (m := σ 6 p1) (by omega); have e2 := monOf_cnt (y := σ 5 p1) (m := σ 6 p1) (by omega); omega))) (va_cwS 1 hts (kg_S mw224 mw225 mw42 rfl mw226) rfl rfl rfl hdS_X1_needPlace ⟨Nat.le_of_ble_eq_true rfl, Nat.le_of_ble_eq_true rfl⟩) ⟨fun a U g mk q => ⟨q.1, q.2.1, kB_call q.2.2⟩, fun U hU hW => ⟨rfl, hU, kB_same hB hU hW⟩⟩ rfl rfl hl.1 rfl (lv_room (Nat.le_of_ble_eq_true rfl)) dX1_ofDay_1 ⟨Nat.le_of_ble_eq_true rfl, Nat.le_of_ble_eq_true rfl⟩) hno hlocks (fun E h => Or.inl ⟨ex2_1 (by have h9 := h.2; (simp only [inb, noThing_iff, noThing_niff, Bool.not_eq_true', Bool.not_eq_false', Bool.or_eq_true, Bool.or_eq_false_iff, decide_eq_true_eq, decide_eq_false_iff_not] <;> omega)), h.1⟩) (Nat.le_of_ble_eq_true rfl) (Nat.le_of_ble_eq_true rfl) (fun g_1 => ?_)
  have g_1 : 0 ≤ (z1) ∧ (z1) ≤ 3 := g_1
  obtain ⟨p1, hp1, rfl⟩ : ∃ p1 : Nat, p1 < 4 ∧ z1 = (p1 : Int) := ⟨z1.toNat, by omega, by omega⟩
  have o_p1 := kOKr hOK hp1
  refine lv_iload_n hx hb dX1_ofDay_4 rfl (lv_at hl 2 rfl) ?_
  refine lv_iconst (v := iZ 0) hx hb dX1_ofDay_5 rfl ?_
  refine lv_iconst (v := iZ 5) hx hb dX1_ofDay_6 rfl ?_
  refine kcxo (fun _ q => q) (vx_runS (As := [.int (iZ w0), .int (iZ 0), .int (iZ 5)]) (rest := []) ⟨hx, hb, hml, hown, hts⟩ (c_X1_needWithin l hst k _ (w0) (0) (5) (by first | omega | (have e1 := yearOf_cnt (y := σ 5 p1) (m := σ 6 p1) (by omega); have e2 := monOf_cnt (y := σ 5 p1) (m := σ 6 p1) (by omega); omega)) (by first | omega | (have e1 := yearOf_cnt (y := σ 5 p1) (m := σ 6 p1) (by omega); have e2 := monOf_cnt (y := σ 5 p1) (m := σ 6 p1) (by omega); omega)) (by first | omega | (have e1 := yearOf_cnt (y := σ 5 p1) (m := σ 6 p1) (by omega); have e2 := monOf_cnt (y := σ 5 p1) (m := σ 6 p1) (by omega); omega))) (va_cwS 3 hts (kg_S mw228 mw229 mw42 rfl mw230) rfl rfl rfl hdS_X1_needWithin ⟨Nat.le_of_ble_eq_true rfl, Nat.le_of_ble_eq_true rfl⟩) ⟨fun a U g mk q => ⟨q.1, q.2.1, kB_call q.2.2⟩, fun U hU hW => ⟨rfl, hU, kB_same hB hU hW⟩⟩ rfl rfl hl.1 rfl (lv_room (Nat.le_of_ble_eq_true rfl)) dX1_ofDay_7 ⟨Nat.le_of_ble_eq_true rfl, Nat.le_of_ble_eq_true rfl⟩) hno hlocks (fun E h => Or.inr ⟨ex2_2 (by (simp only [inb, noThing_iff, noThing_niff, Bool.not_eq_true', Bool.not_eq_false', Bool.or_eq_true, Bool.or_eq_false_iff, decide_eq_true_eq, decide_eq_false_iff_not] <;> omega)) (by have h9 := h.2; (simp only [inb, noThing_iff, noThing_niff, Bool.not_eq_true', Bool.not_eq_false', Bool.or_eq_true, Bool.or_eq_false_iff, decide_eq_true_eq, decide_eq_false_iff_not] <;> omega)), h.1⟩) (Nat.le_of_ble_eq_true rfl) (Nat.le_of_ble_eq_true rfl) (fun g_2 => ?_)
  have g_2 : (0) ≤ (w0) ∧ (w0) ≤ (5) := g_2
  refine lv_aload_n hx hb dX1_ofDay_10 rfl (lv_at hl 0 rfl) ?_
  refine va_get (D := (dC, dI)) (ci := 4) (v := .ref (q 5)) (C := RX1) (T := TX1) (N := 8) hx hb hts (fun w h => List.mem_cons_of_mem _ (gF_0_in h)) hown hM.1 hP 0 rfl rfl 4 (by decide) (hts _ (List.mem_cons_of_mem _ mw101)) (fun _ h9 => h9) rfl dX1_ofDay_11 ?_
  refine lv_iload_n hx hb dX1_ofDay_14 rfl (lv_at hl 1 rfl) ?_
  refine kz_lald (v := cnt (σ 5 p1) (σ 6 p1)) hx hb hM.1 hP 5 1 rfl rfl (by omega) (by decide) rfl dX1_ofDay_15 ?_
  refine lv_lstore_n (lv' := [(3, .long (lZ (cnt (σ 5 p1) (σ 6 p1)))), (0, .ref (q 0)), (1, .int (iZ ((p1 : Nat) : Int))), (2, .int (iZ w0))]) hx hb dX1_ofDay_16 rfl hl (by decide) rfl (fun ls hl => ?_)
  refine lv_iload_n hx hb dX1_ofDay_17 rfl (lv_at hl 3 rfl) ?_
  by_cases c_3 : w0 = 0
  · refine lv_tableIn (tgt := 52) (off := 34) hx hb dX1_ofDay_18 (by rw [iZ_toInt (z := w0) (by first | omega | (have e1 := yearOf_cnt (y := σ 5 p1) (m := σ 6 p1) (by omega); have e2 := monOf_cnt (y := σ 5 p1) (m := σ 6 p1) (by omega); omega))]; omega) (by rw [iZ_toInt (z := w0) (by first | omega | (have e1 := yearOf_cnt (y := σ 5 p1) (m := σ 6 p1) (by omega); have e2 := monOf_cnt (y := σ 5 p1) (m := σ 6 p1) (by omega); omega))]; omega) (by rw [iZ_toInt (z := w0) (by first | omega | (have e1 := yearOf_cnt (y := σ 5 p1) (m := σ 6 p1) (by omega); have e2 := monOf_cnt (y := σ 5 p1) (m := σ 6 p1) (by omega); omega)), show w0 = 0 from by omega]; rfl) (by decide) ?_
    refine lv_lload_n hx hb dX1_ofDay_52 rfl (lv_at hl 0 rfl) ?_
    refine kc0 (fun _ q => q) (va_runS (As := [.long (lZ (cnt (σ 5 p1) (σ 6 p1)))]) (rest := []) ⟨hx, hb, hml, hown, hts⟩ (c_X0_yearOfCount l _ ((cnt (σ 5 p1) (σ 6 p1))) (by first | omega | (have e1 := yearOf_cnt (y := σ 5 p1) (m := σ 6 p1) (by omega); have e2 := monOf_cnt (y := σ 5 p1) (m := σ 6 p1) (by omega); omega))) (va_cwS 1 hts (kg_S mw152 mw143 mw51 rfl mw144) rfl rfl rfl hdS_X0_yearOfCount ⟨Nat.le_of_ble_eq_true rfl, Nat.le_of_ble_eq_true rfl⟩) ⟨fun a U g mk q => q, fun U hU hW => ⟨rfl, hU⟩⟩ rfl rfl hl.1 rfl (lv_room (Nat.le_of_ble_eq_true rfl)) dX1_ofDay_53 ⟨Nat.le_of_ble_eq_true rfl, Nat.le_of_ble_eq_true rfl⟩) ?_
    refine W.widen (k := 2) (n := 12) (Nat.le_of_ble_eq_true rfl) (Nat.le_of_ble_eq_true rfl) ?_
    refine vx_ret ?_
    exact W.iret (v := iZ (yearOf (((cnt (σ 5 p1) (σ 6 p1)))))) hx hb hr (fun t ht hW => ⟨⟨⟨congrArg (fun z : Int => Outcome.returned (some (Value.int (iZ z)))) (show (yearOf (((cnt (σ 5 p1) (σ 6 p1))))) = (ofD σ p1 w0) from by unfold ofD; have e1 := yearOf_cnt (y := σ 5 p1) (m := σ 6 p1) (by omega); have e2 := monOf_cnt (y := σ 5 p1) (m := σ 6 p1) (by omega); (try rw [e1]); (try rw [e2]); simp [*]), gX_cast ⟨tb, tn, tm, htn, hfit, htm, by rw [ht]; exact hP⟩ (show (σ) = (σ) from by rfl)⟩, hS.F ht⟩, ex2_0 (by (simp only [inb, noThing_iff, noThing_niff, Bool.not_eq_true', Bool.not_eq_false', Bool.or_eq_true, Bool.or_eq_false_iff, decide_eq_true_eq, decide_eq_false_iff_not] <;> omega)) (by (simp only [inb, noThing_iff, noThing_niff, Bool.not_eq_true', Bool.not_eq_false', Bool.or_eq_true, Bool.or_eq_false_iff, decide_eq_true_eq, decide_eq_false_iff_not] <;> omega))⟩) hS.2.2 dX1_ofDay_56
  by_cases c_4 : w0 = 1
  · refine lv_tableIn (tgt := 57) (off := 39) hx hb dX1_ofDay_18 (by rw [iZ_toInt (z := w0) (by first | omega | (have e1 := yearOf_cnt (y := σ 5 p1) (m := σ 6 p1) (by omega); have e2 := monOf_cnt (y := σ 5 p1) (m := σ 6 p1) (by omega); omega))]; omega) (by rw [iZ_toInt (z := w0) (by first | omega | (have e1 := yearOf_cnt (y := σ 5 p1) (m := σ 6 p1) (by omega); have e2 := monOf_cnt (y := σ 5 p1) (m := σ 6 p1) (by omega); omega))]; omega) (by rw [iZ_toInt (z := w0) (by first | omega | (have e1 := yearOf_cnt (y := σ 5 p1) (m := σ 6 p1) (by omega); have e2 := monOf_cnt (y := σ 5 p1) (m := σ 6 p1) (by omega); omega)), show w0 = 1 from by omega]; rfl) (by decide) ?_
    refine lv_lload_n hx hb dX1_ofDay_57 rfl (lv_at hl 0 rfl) ?_
    refine kc0 (fun _ q => q) (va_runS (As := [.long (lZ (cnt (σ 5 p1) (σ 6 p1)))]) (rest := []) ⟨hx, hb, hml, hown, hts⟩ (c_X0_monthOf l _ ((cnt (σ 5 p1) (σ 6 p1))) (by first | omega | (have e1 := yearOf_cnt (y := σ 5 p1) (m := σ 6 p1) (by omega); have e2 := monOf_cnt (y := σ 5 p1) (m := σ 6 p1) (by omega); omega))) (va_cwS 1 hts (kg_S mw153 mw136 mw51 rfl mw137) rfl rfl rfl hdS_X0_monthOf ⟨Nat.le_of_ble_eq_true rfl, Nat.le_of_ble_eq_true rfl⟩) ⟨fun a U g mk q => q, fun U hU hW => ⟨rfl, hU⟩⟩ rfl rfl hl.1 rfl (lv_room (Nat.le_of_ble_eq_true rfl)) dX1_ofDay_58 ⟨Nat.le_of_ble_eq_true rfl, Nat.le_of_ble_eq_true rfl⟩) ?_
    refine W.widen (k := 2) (n := 12) (Nat.le_of_ble_eq_true rfl) (Nat.le_of_ble_eq_true rfl) ?_
    refine vx_ret ?_
    exact W.iret (v := iZ (monOf (((cnt (σ 5 p1) (σ 6 p1)))))) hx hb hr (fun t ht hW => ⟨⟨⟨congrArg (fun z : Int => Outcome.returned (some (Value.int (iZ z)))) (show (monOf (((cnt (σ 5 p1) (σ 6 p1))))) = (ofD σ p1 w0) from by unfold ofD; have e1 := yearOf_cnt (y := σ 5 p1) (m := σ 6 p1) (by omega); have e2 := monOf_cnt (y := σ 5 p1) (m := σ 6 p1) (by omega); (try rw [e1]); (try rw [e2]); simp [*]), gX_cast ⟨tb, tn, tm, htn, hfit, htm, by rw [ht]; exact hP⟩ (show (σ) = (σ) from by rfl)⟩, hS.F ht⟩, ex2_0 (by (simp only [inb, noThing_iff, noThing_niff, Bool.not_eq_true', Bool.not_eq_false', Bool.or_eq_true, Bool.or_eq_false_iff, decide_eq_true_eq, decide_eq_false_iff_not] <;> omega)) (by (simp only [inb, noThing_iff, noThing_niff, Bool.not_eq_true', Bool.not_eq_false', Bool.or_eq_true, Bool.or_eq_false_iff, decide_eq_true_eq, decide_eq_false_iff_not] <;> omega))⟩) hS.2.2 dX1_ofDay_61
  by_cases c_5 : w0 = 2
  · refine lv_tableIn (tgt := 62) (off := 44) hx hb dX1_ofDay_18 (by rw [iZ_toInt (z := w0) (by first | omega | (have e1 := yearOf_cnt (y := σ 5 p1) (m := σ 6 p1) (by omega); have e2 := monOf_cnt (y := σ 5 p1) (m := σ 6 p1) (by omega); omega))]; omega) (by rw [iZ_toInt (z := w0) (by first | omega | (have e1 := yearOf_cnt (y := σ 5 p1) (m := σ 6 p1) (by omega); have e2 := monOf_cnt (y := σ 5 p1) (m := σ 6 p1) (by omega); omega))]; omega) (by rw [iZ_toInt (z := w0) (by first | omega | (have e1 := yearOf_cnt (y := σ 5 p1) (m := σ 6 p1) (by omega); have e2 := monOf_cnt (y := σ 5 p1) (m := σ 6 p1) (by omega); omega)), show w0 = 2 from by omega]; rfl) (by decide) ?_
    refine lv_aload_n hx hb dX1_ofDay_62 rfl (lv_at hl 1 rfl) ?_
    refine va_get (D := (dC, dI)) (ci := 4) (v := .ref (q 6)) (C := RX1) (T := TX1) (N := 8) hx hb hts (fun w h => List.mem_cons_of_mem _ (gF_0_in h)) hown hM.1 hP 0 rfl rfl 5 (by decide) (hts _ (List.mem_cons_of_mem _ mw102)) (fun _ h9 => h9) rfl dX1_ofDay_63 ?_
    refine lv_iload_n hx hb dX1_ofDay_66 rfl (lv_at hl 2 rfl) ?_
    refine kz_iald (v := σ 7 p1) hx hb hM.1 hP 6 0 rfl rfl (by omega) (by decide) rfl dX1_ofDay_67 ?_
    refine W.widen (k := 2) (n := 12) (Nat.le_of_ble_eq_true rfl) (Nat.le_of_ble_eq_true rfl) ?_
    refine vx_ret ?_
    exact W.iret (v := iZ (σ 7 p1)) hx hb hr (fun t ht hW => ⟨⟨⟨congrArg (fun z : Int => Outcome.returned (some (Value.int (iZ z)))) (show (σ 7 p1) = (ofD σ p1 w0) from by unfold ofD; have e1 := yearOf_cnt (y := σ 5 p1) (m := σ 6 p1) (by omega); have e2 := monOf_cnt (y := σ 5 p1) (m := σ 6 p1) (by omega); (try rw [e1]); (try rw [e2]); simp [*]), gX_cast ⟨tb, tn, tm, htn, hfit, htm, by rw [ht]; exact hP⟩ (show (σ) = (σ) from by rfl)⟩, hS.F ht⟩, ex2_0 (by (simp only [inb, noThing_iff, noThing_niff, Bool.not_eq_true', Bool.not_eq_false', Bool.or_eq_true, Bool.or_eq_false_iff, decide_eq_true_eq, decide_eq_false_iff_not] <;> omega)) (by (simp only [inb, noThing_iff, noThing_niff, Bool.not_eq_true', Bool.not_eq_false', Bool.or_eq_true, Bool.or_eq_false_iff, decide_eq_true_eq, decide_eq_false_iff_not] <;> omega))⟩) hS.2.2 dX1_ofDay_68
  by_cases c_6 : w0 = 3
  · refine lv_tableIn (tgt := 69) (off := 51) hx hb dX1_ofDay_18 (by rw [iZ_toInt (z := w0) (by first | omega | (have e1 := yearOf_cnt (y := σ 5 p1) (m := σ 6 p1) (by omega); have e2 := monOf_cnt (y := σ 5 p1) (m := σ 6 p1) (by omega); omega))]; omega) (by rw [iZ_toInt (z := w0) (by first | omega | (have e1 := yearOf_cnt (y := σ 5 p1) (m := σ 6 p1) (by omega); have e2 := monOf_cnt (y := σ 5 p1) (m := σ 6 p1) (by omega); omega))]; omega) (by rw [iZ_toInt (z := w0) (by first | omega | (have e1 := yearOf_cnt (y := σ 5 p1) (m := σ 6 p1) (by omega); have e2 := monOf_cnt (y := σ 5 p1) (m := σ 6 p1) (by omega); omega)), show w0 = 3 from by omega]; rfl) (by decide) ?_
    refine lv_lload_n hx hb dX1_ofDay_69 rfl (lv_at hl 0 rfl) ?_
    refine lv_aload_n hx hb dX1_ofDay_70 rfl (lv_at hl 1 rfl) ?_
    refine va_get (D := (dC, dI)) (ci := 4) (v := .ref (q 6)) (C := RX1) (T := TX1) (N := 8) hx hb hts (fun w h => List.mem_cons_of_mem _ (gF_0_in h)) hown hM.1 hP 0 rfl rfl 5 (by decide) (hts _ (List.mem_cons_of_mem _ mw102)) (fun _ h9 => h9) rfl dX1_ofDay_71 ?_
    refine lv_iload_n hx hb dX1_ofDay_74 rfl (lv_at hl 2 rfl) ?_
    refine kz_iald (v := σ 7 p1) hx hb hM.1 hP 6 0 rfl rfl (by omega) (by decide) rfl dX1_ofDay_75 ?_
    refine kc0 (fun _ q => q) (va_runS (As := [.long (lZ (cnt (σ 5 p1) (σ 6 p1))), .int (iZ (σ 7 p1))]) (rest := []) ⟨hx, hb, hml, hown, hts⟩ (c_X0_placeOf l _ ((cnt (σ 5 p1) (σ 6 p1))) ((σ 7 p1)) (by first | omega | (have e1 := yearOf_cnt (y := σ 5 p1) (m := σ 6 p1) (by omega); have e2 := monOf_cnt (y := σ 5 p1) (m := σ 6 p1) (by omega); omega)) (by first | omega | (have e1 := yearOf_cnt (y := σ 5 p1) (m := σ 6 p1) (by omega); have e2 := monOf_cnt (y := σ 5 p1) (m := σ 6 p1) (by omega); omega))) (va_cwS 2 hts (kg_S mw549 mw550 mw51 rfl mw551) rfl rfl rfl hdS_X0_placeOf ⟨Nat.le_of_ble_eq_true rfl, Nat.le_of_ble_eq_true rfl⟩) ⟨fun a U g mk q => q, fun U hU hW => ⟨rfl, hU⟩⟩ rfl rfl hl.1 rfl (lv_room (Nat.le_of_ble_eq_true rfl)) dX1_ofDay_76 ⟨Nat.le_of_ble_eq_true rfl, Nat.le_of_ble_eq_true rfl⟩) ?_
    refine W.widen (k := 2) (n := 12) (Nat.le_of_ble_eq_true rfl) (Nat.le_of_ble_eq_true rfl) ?_
    refine vx_ret ?_
    exact W.iret (v := iZ (ahead (leap (yearOf (((cnt (σ 5 p1) (σ 6 p1)))))) (monOf (((cnt (σ 5 p1) (σ 6 p1))))) + (((σ 7 p1))))) hx hb hr (fun t ht hW => ⟨⟨⟨congrArg (fun z : Int => Outcome.returned (some (Value.int (iZ z)))) (show (ahead (leap (yearOf (((cnt (σ 5 p1) (σ 6 p1)))))) (monOf (((cnt (σ 5 p1) (σ 6 p1))))) + (((σ 7 p1)))) = (ofD σ p1 w0) from by unfold ofD; have e1 := yearOf_cnt (y := σ 5 p1) (m := σ 6 p1) (by omega); have e2 := monOf_cnt (y := σ 5 p1) (m := σ 6 p1) (by omega); (try rw [e1]); (try rw [e2]); simp [*]), gX_cast ⟨tb, tn, tm, htn, hfit, htm, by rw [ht]; exact hP⟩ (show (σ) = (σ) from by rfl)⟩, hS.F ht⟩, ex2_0 (by (simp only [inb, noThing_iff, noThing_niff, Bool.not_eq_true', Bool.not_eq_false', Bool.or_eq_true, Bool.or_eq_false_iff, decide_eq_true_eq, decide_eq_false_iff_not] <;> omega)) (by (simp only [inb, noThing_iff, noThing_niff, Bool.not_eq_true', Bool.not_eq_false', Bool.or_eq_true, Bool.or_eq_false_iff, decide_eq_true_eq, decide_eq_false_iff_not] <;> omega))⟩) hS.2.2 dX1_ofDay_79
  by_cases c_7 : w0 = 4
  · refine lv_tableIn (tgt := 80) (off := 62) hx hb dX1_ofDay_18 (by rw [iZ_toInt (z := w0) (by first | omega | (have e1 := yearOf_cnt (y := σ 5 p1) (m := σ 6 p1) (by omega); have e2 := monOf_cnt (y := σ 5 p1) (m := σ 6 p1) (by omega); omega))]; omega) (by rw [iZ_toInt (z := w0) (by first | omega | (have e1 := yearOf_cnt (y := σ 5 p1) (m := σ 6 p1) (by omega); have e2 := monOf_cnt (y := σ 5 p1) (m := σ 6 p1) (by omega); omega))]; omega) (by rw [iZ_toInt (z := w0) (by first | omega | (have e1 := yearOf_cnt (y := σ 5 p1) (m := σ 6 p1) (by omega); have e2 := monOf_cnt (y := σ 5 p1) (m := σ 6 p1) (by omega); omega)), show w0 = 4 from by omega]; rfl) (by decide) ?_
    refine lv_aload_n hx hb dX1_ofDay_80 rfl (lv_at hl 1 rfl) ?_
    refine lv_iload_n hx hb dX1_ofDay_81 rfl (lv_at hl 2 rfl) ?_
    refine kc0 (fun _ q => q) (va_runV (As := [.int (iZ ((p1 : Nat) : Int))]) (rest := []) ⟨hx, hb, hml, hown, hts⟩ (c_X1_weekdayAt l dC dI dA k q (σ) _ ⟨tb, tn, tm, htn, hfit, htm, hP⟩ (hOK) p1 (by first | omega | (have e1 := yearOf_cnt (y := σ 5 p1) (m := σ 6 p1) (by omega); have e2 := monOf_cnt (y := σ 5 p1) (m := σ 6 p1) (by omega); omega))) (cwV 1 hts (kg_V mw552 mw553 mw12 mw42 rfl mw554) rfl rfl rfl hdV_X1_weekdayAt ⟨Nat.le_of_ble_eq_true rfl, Nat.le_of_ble_eq_true rfl⟩) ⟨fun a U g mk q => ⟨q.1, q.2.1, kM_call q.2.2⟩, va_recv hM.1 hP (ci := 4) (q0 := 0) rfl rfl, fun U hU hW => ⟨rfl, hU, kM_same hM hU hW⟩⟩ rfl rfl hl.1 rfl (lv_room (Nat.le_of_ble_eq_true rfl)) dX1_ofDay_82 ⟨Nat.le_of_ble_eq_true rfl, Nat.le_of_ble_eq_true rfl⟩) ?_
    refine W.widen (k := 2) (n := 12) (Nat.le_of_ble_eq_true rfl) (Nat.le_of_ble_eq_true rfl) ?_
    refine vx_ret ?_
    exact W.iret (v := iZ (1 + (dnum (σ 5 p1) (σ 6 p1) (σ 7 p1) + 3) % 7)) hx hb hr (fun t ht hW => ⟨⟨⟨congrArg (fun z : Int => Outcome.returned (some (Value.int (iZ z)))) (show (1 + (dnum (σ 5 p1) (σ 6 p1) (σ 7 p1) + 3) % 7) = (ofD σ p1 w0) from by unfold ofD; have e1 := yearOf_cnt (y := σ 5 p1) (m := σ 6 p1) (by omega); have e2 := monOf_cnt (y := σ 5 p1) (m := σ 6 p1) (by omega); (try rw [e1]); (try rw [e2]); simp [*]), gX_cast ⟨tb, tn, tm, htn, hfit, htm, by rw [ht]; exact hP⟩ (show (σ) = (σ) from by rfl)⟩, hS.F ht⟩, ex2_0 (by (simp only [inb, noThing_iff, noThing_niff, Bool.not_eq_true', Bool.not_eq_false', Bool.or_eq_true, Bool.or_eq_false_iff, decide_eq_true_eq, decide_eq_false_iff_not] <;> omega)) (by (simp only [inb, noThing_iff, noThing_niff, Bool.not_eq_true', Bool.not_eq_false', Bool.or_eq_true, Bool.or_eq_false_iff, decide_eq_true_eq, decide_eq_false_iff_not] <;> omega))⟩) hS.2.2 dX1_ofDay_85
  refine lv_tableOut (tgt := 86) hx hb dX1_ofDay_18 (by rw [iZ_toInt (z := w0) (by first | omega | (have e1 := yearOf_cnt (y := σ 5 p1) (m := σ 6 p1) (by omega); have e2 := monOf_cnt (y := σ 5 p1) (m := σ 6 p1) (by omega); omega))]; omega) (by decide) ?_
  refine lv_aload_n hx hb dX1_ofDay_86 rfl (lv_at hl 1 rfl) ?_
  refine lv_iload_n hx hb dX1_ofDay_87 rfl (lv_at hl 2 rfl) ?_
  refine kc0 (fun _ q => q) (va_runV (As := [.int (iZ ((p1 : Nat) : Int))]) (rest := []) ⟨hx, hb, hml, hown, hts⟩ (c_X1_isLastOfMonth l dC dI dA k q (σ) _ ⟨tb, tn, tm, htn, hfit, htm, hP⟩ (hOK) p1 (by first | omega | (have e1 := yearOf_cnt (y := σ 5 p1) (m := σ 6 p1) (by omega); have e2 := monOf_cnt (y := σ 5 p1) (m := σ 6 p1) (by omega); omega))) (cwV 1 hts (kg_V mw560 mw561 mw13 mw42 rfl mw562) rfl rfl rfl hdV_X1_isLastOfMonth ⟨Nat.le_of_ble_eq_true rfl, Nat.le_of_ble_eq_true rfl⟩) ⟨fun a U g mk q => ⟨q.1, q.2.1, kM_call q.2.2⟩, va_recv hM.1 hP (ci := 4) (q0 := 0) rfl rfl, fun U hU hW => ⟨rfl, hU, kM_same hM hU hW⟩⟩ rfl rfl hl.1 rfl (lv_room (Nat.le_of_ble_eq_true rfl)) dX1_ofDay_88 ⟨Nat.le_of_ble_eq_true rfl, Nat.le_of_ble_eq_true rfl⟩) ?_
  refine kc0 (fun _ q => q) (va_runS (As := [.int (iZ (bZ (decide (σ 7 p1 = mlen (leap (σ 5 p1)) (σ 6 p1)))))]) (rest := []) ⟨hx, hb, hml, hown, hts⟩ (c_X1_oneIf l _ (decide (σ 7 p1 = mlen (leap (σ 5 p1)) (σ 6 p1)))) (va_cwS 1 hts (kg_S mw176 mw177 mw42 rfl mw178) rfl rfl rfl hdS_X1_oneIf ⟨Nat.le_of_ble_eq_true rfl, Nat.le_of_ble_eq_true rfl⟩) ⟨fun a U g mk q => q, fun U hU hW => ⟨rfl, hU⟩⟩ rfl rfl hl.1 rfl (lv_room (Nat.le_of_ble_eq_true rfl)) dX1_ofDay_91 ⟨Nat.le_of_ble_eq_true rfl, Nat.le_of_ble_eq_true rfl⟩) ?_
  refine W.widen (k := 2) (n := 12) (Nat.le_of_ble_eq_true rfl) (Nat.le_of_ble_eq_true rfl) ?_
  refine vx_ret ?_
  exact W.iret (v := iZ (bZ ((decide (σ 7 p1 = mlen (leap (σ 5 p1)) (σ 6 p1)))))) hx hb hr (fun t ht hW => ⟨⟨⟨congrArg (fun z : Int => Outcome.returned (some (Value.int (iZ z)))) (show (bZ ((decide (σ 7 p1 = mlen (leap (σ 5 p1)) (σ 6 p1))))) = (ofD σ p1 w0) from by unfold ofD; have e1 := yearOf_cnt (y := σ 5 p1) (m := σ 6 p1) (by omega); have e2 := monOf_cnt (y := σ 5 p1) (m := σ 6 p1) (by omega); (try rw [e1]); (try rw [e2]); simp [*]), gX_cast ⟨tb, tn, tm, htn, hfit, htm, by rw [ht]; exact hP⟩ (show (σ) = (σ) from by rfl)⟩, hS.F ht⟩, ex2_0 (by (simp only [inb, noThing_iff, noThing_niff, Bool.not_eq_true', Bool.not_eq_false', Bool.or_eq_true, Bool.or_eq_false_iff, decide_eq_true_eq, decide_eq_false_iff_not] <;> omega)) (by (simp only [inb, noThing_iff, noThing_niff, Bool.not_eq_true', Bool.not_eq_false', Bool.or_eq_true, Bool.or_eq_false_iff, decide_eq_true_eq, decide_eq_false_iff_not] <;> omega))⟩) hS.2.2 dX1_ofDay_94

abbrev ww_X1_knows : List Cond := .code yX1_knows cX1_knows 3 (some .boolean) :: gT
set_option maxHeartbeats 4000000 in
set_option maxRecDepth 100000 in
theorem c_X1_knows (l : Launch) (hst : l.stackTraces = false) (dC : Nat → ClassId) (dI : Nat → Nat → Nat) (dA : Nat → ClassId) (k : Nat → Nat) (q : Nat → Nat) (σ : Nat → Nat → Int) (H0 : Heap) (hG : gX dC dI dA q σ H0) (hOK : kOK σ) (hq : kQI q k) (kd : Int) (w0 : Int) (rkd : -2147483648 ≤ kd ∧ kd < 2147483648) (rw0 : -2147483648 ≤ w0 ∧ w0 < 2147483648) : vx_Met l yX1_knows ww_X1_knows ({ frames := 9, cells := 2, slots := 12, locals := 322 }) (va_Pc [.ref (q 0), .int (iZ kd), .int (iZ w0)] (fun U => U.heap = H0 ∧ kM dC dI dA k U)) (kQ2x (ex2 (!inb kd 0 2 || !inb w0 0 12) (false) = 0) (some (.int (iZ (bZ (knw kd w0))))) (gX dC dI dA q (σ)) (kA q H0.size)) (kXC (fun E => ex2 (!inb kd 0 2 || !inb w0 0 12) (false) = 1 ∧ E = "java/lang/IllegalArgumentException")) 2 12 (kA q H0.size) := by
  refine vx_ofW (cc := cX1_knows) (maxL := 3) (ret := (some .boolean)) (by decide) rfl ?_
  intro p e s m args below meth c s₁ B hml hno hv
  obtain ⟨rfl, hH, hM⟩ := hv
  subst hH
  have hB := hM.2.1
  obtain ⟨tb, tn, tm, htn, hfit, htm, hP⟩ := hG
  have hS : va_S (kA q s.heap.size) s.heap s.heap [] := va_S.rf
  have hx := B.exec
  have hb := B.bytes
  have hr := B.returns
  have hts := atoms_spec (ws := ww_X1_knows) B.pre
  have hown : s.vm.findClass RX1 = some m.cls := findClass_of_methodNamed B.named
  have hlocks := B.notSynchronized
  have hl := lv_entry ([.ref (q 0), .int (iZ kd), .int (iZ w0)]) (n := 3) (Nat.le_of_ble_eq_true rfl)
  rw [lg_entry_eq]
  generalize (lg_sl ([.ref (q 0), .int (iZ kd), .int (iZ w0)]) ++ List.replicate (3 - (lg_sl ([.ref (q 0), .int (iZ kd), .int (iZ w0)])).length) Slot.unset).toArray = ls at hl ⊢
  have hl : lv_has ls 3 [(0, .ref (q 0)), (1, .int (iZ kd)), (2, .int (iZ w0))] := hl
  refine lv_iload_n hx hb dX1_knows_0 rfl (lv_at hl 1 rfl) ?_
  refine lv_iconst (v := iZ 0) hx hb dX1_knows_1 rfl ?_
  refine lv_iconst (v := iZ 2) hx hb dX1_knows_2 rfl ?_
  refine kcxo (fun _ q => q) (vx_runS (As := [.int (iZ kd), .int (iZ 0), .int (iZ 2)]) (rest := []) ⟨hx, hb, hml, hown, hts⟩ (c_X1_needWithin l hst k _ (kd) (0) (2) (by omega) (by omega) (by omega)) (va_cwS 3 hts (kg_S mw228 mw229 mw42 rfl mw230) rfl rfl rfl hdS_X1_needWithin ⟨Nat.le_of_ble_eq_true rfl, Nat.le_of_ble_eq_true rfl⟩) ⟨fun a U g mk q => ⟨q.1, q.2.1, kB_call q.2.2⟩, fun U hU hW => ⟨rfl, hU, kB_same hB hU hW⟩⟩ rfl rfl hl.1 rfl (lv_room (Nat.le_of_ble_eq_true rfl)) dX1_knows_3 ⟨Nat.le_of_ble_eq_true rfl, Nat.le_of_ble_eq_true rfl⟩) hno hlocks (fun E h => ⟨ex2_1 (by have h9 := h.2; (simp only [inb, noThing_iff, noThing_niff, Bool.not_eq_true', Bool.not_eq_false', Bool.or_eq_true, Bool.or_eq_false_iff, decide_eq_true_eq, decide_eq_false_iff_not] <;> omega)), h.1⟩) (Nat.le_of_ble_eq_true rfl) (Nat.le_of_ble_eq_true rfl) (fun g_1 => ?_)
  have g_1 : (0) ≤ (kd) ∧ (kd) ≤ (2) := g_1
  refine lv_iload_n hx hb dX1_knows_6 rfl (lv_at hl 2 rfl) ?_
  refine lv_iconst (v := iZ 0) hx hb dX1_knows_7 rfl ?_
  refine lv_bipush (v := iZ 12) hx hb dX1_knows_8 rfl ?_
  refine kcxo (fun _ q => q) (vx_runS (As := [.int (iZ w0), .int (iZ 0), .int (iZ 12)]) (rest := []) ⟨hx, hb, hml, hown, hts⟩ (c_X1_needWithin l hst k _ (w0) (0) (12) (by omega) (by omega) (by omega)) (va_cwS 3 hts (kg_S mw228 mw229 mw42 rfl mw230) rfl rfl rfl hdS_X1_needWithin ⟨Nat.le_of_ble_eq_true rfl, Nat.le_of_ble_eq_true rfl⟩) ⟨fun a U g mk q => ⟨q.1, q.2.1, kB_call q.2.2⟩, fun U hU hW => ⟨rfl, hU, kB_same hB hU hW⟩⟩ rfl rfl hl.1 rfl (lv_room (Nat.le_of_ble_eq_true rfl)) dX1_knows_10 ⟨Nat.le_of_ble_eq_true rfl, Nat.le_of_ble_eq_true rfl⟩) hno hlocks (fun E h => ⟨ex2_1 (by have h9 := h.2; (simp only [inb, noThing_iff, noThing_niff, Bool.not_eq_true', Bool.not_eq_false', Bool.or_eq_true, Bool.or_eq_false_iff, decide_eq_true_eq, decide_eq_false_iff_not] <;> omega)), h.1⟩) (Nat.le_of_ble_eq_true rfl) (Nat.le_of_ble_eq_true rfl) (fun g_2 => ?_)
  have g_2 : (0) ≤ (w0) ∧ (w0) ≤ (12) := g_2
  refine lv_iload_n hx hb dX1_knows_13 rfl (lv_at hl 1 rfl) ?_
  by_cases c_3 : kd = 0
  · refine lv_lookup (tgt := 40) (off := 26) hx hb dX1_knows_14 (by decide) (by rw [iZ_toInt (z := kd) (by omega), show kd = 0 from by omega]; rfl) (by decide) ?_
    refine lv_iload_n hx hb dX1_knows_40 rfl (lv_at hl 2 rfl) ?_
    refine lv_iconst (v := iZ 1) hx hb dX1_knows_41 rfl ?_
    refine kz_icmp_lt (tgt := 50) hx hb (by omega) (by omega) dX1_knows_42 (by decide) (fun c_4 => ?_) (fun c_4 => ?_)
    · refine lv_iload_n hx hb dX1_knows_50 rfl (lv_at hl 2 rfl) ?_
      refine lv_bipush (v := iZ 7) hx hb dX1_knows_51 rfl ?_
      refine kz_icmp_lt (tgt := 60) hx hb (by omega) (by omega) dX1_knows_53 (by decide) (fun c_5 => ?_) (fun c_5 => ?_)
      · refine lv_iconst (v := iZ 0) hx hb dX1_knows_60 rfl ?_
        refine W.widen (k := 2) (n := 12) (Nat.le_of_ble_eq_true rfl) (Nat.le_of_ble_eq_true rfl) ?_
        refine vx_ret ?_
        exact W.zret (v := iZ 0) (ty := .boolean) hx hb hr rfl (fun t ht hW => ⟨⟨⟨congrArg (fun z : Int => Outcome.returned (some (Value.int (iZ z)))) (show 0 = (bZ (knw kd w0)) from by unfold knw; (repeat' split) <;> first | exact bZ_d0 (by omega) | omega), gX_cast ⟨tb, tn, tm, htn, hfit, htm, by rw [ht]; exact hP⟩ (show (σ) = (σ) from by rfl)⟩, hS.F ht⟩, ex2_0 (by (simp only [inb, noThing_iff, noThing_niff, Bool.not_eq_true', Bool.not_eq_false', Bool.or_eq_true, Bool.or_eq_false_iff, decide_eq_true_eq, decide_eq_false_iff_not] <;> omega)) (by rfl)⟩) hS.2.2 dX1_knows_61
      · refine lv_iconst (v := iZ 1) hx hb dX1_knows_56 rfl ?_
        refine lv_goto (tgt := 61) hx hb dX1_knows_57 (by decide) ?_
        refine W.widen (k := 2) (n := 12) (Nat.le_of_ble_eq_true rfl) (Nat.le_of_ble_eq_true rfl) ?_
        refine vx_ret ?_
        exact W.zret (v := iZ 1) (ty := .boolean) hx hb hr rfl (fun t ht hW => ⟨⟨⟨congrArg (fun z : Int => Outcome.returned (some (Value.int (iZ z)))) (show 1 = (bZ (knw kd w0)) from by unfold knw; (repeat' split) <;> first | exact bZ_d1 (by omega) | omega), gX_cast ⟨tb, tn, tm, htn, hfit, htm, by rw [ht]; exact hP⟩ (show (σ) = (σ) from by rfl)⟩, hS.F ht⟩, ex2_0 (by (simp only [inb, noThing_iff, noThing_niff, Bool.not_eq_true', Bool.not_eq_false', Bool.or_eq_true, Bool.or_eq_false_iff, decide_eq_true_eq, decide_eq_false_iff_not] <;> omega)) (by rfl)⟩) hS.2.2 dX1_knows_61
    · refine lv_iload_n hx hb dX1_knows_45 rfl (lv_at hl 2 rfl) ?_
      refine lv_iconst (v := iZ 5) hx hb dX1_knows_46 rfl ?_
      refine kz_icmp_le (tgt := 56) hx hb (by omega) (by omega) dX1_knows_47 (by decide) (fun c_6 => ?_) (fun c_6 => ?_)
      · refine lv_iconst (v := iZ 1) hx hb dX1_knows_56 rfl ?_
        refine lv_goto (tgt := 61) hx hb dX1_knows_57 (by decide) ?_
        refine W.widen (k := 2) (n := 12) (Nat.le_of_ble_eq_true rfl) (Nat.le_of_ble_eq_true rfl) ?_
        refine vx_ret ?_
        exact W.zret (v := iZ 1) (ty := .boolean) hx hb hr rfl (fun t ht hW => ⟨⟨⟨congrArg (fun z : Int => Outcome.returned (some (Value.int (iZ z)))) (show 1 = (bZ (knw kd w0)) from by unfold knw; (repeat' split) <;> first | exact bZ_d1 (by omega) | omega), gX_cast ⟨tb, tn, tm, htn, hfit, htm, by rw [ht]; exact hP⟩ (show (σ) = (σ) from by rfl)⟩, hS.F ht⟩, ex2_0 (by (simp only [inb, noThing_iff, noThing_niff, Bool.not_eq_true', Bool.not_eq_false', Bool.or_eq_true, Bool.or_eq_false_iff, decide_eq_true_eq, decide_eq_false_iff_not] <;> omega)) (by rfl)⟩) hS.2.2 dX1_knows_61
      · refine lv_iload_n hx hb dX1_knows_50 rfl (lv_at hl 2 rfl) ?_
        refine lv_bipush (v := iZ 7) hx hb dX1_knows_51 rfl ?_
        refine kz_icmp_lt (tgt := 60) hx hb (by omega) (by omega) dX1_knows_53 (by decide) (fun c_7 => ?_) (fun c_7 => ?_)
        · refine lv_iconst (v := iZ 0) hx hb dX1_knows_60 rfl ?_
          refine W.widen (k := 2) (n := 12) (Nat.le_of_ble_eq_true rfl) (Nat.le_of_ble_eq_true rfl) ?_
          refine vx_ret ?_
          exact W.zret (v := iZ 0) (ty := .boolean) hx hb hr rfl (fun t ht hW => ⟨⟨⟨congrArg (fun z : Int => Outcome.returned (some (Value.int (iZ z)))) (show 0 = (bZ (knw kd w0)) from by unfold knw; (repeat' split) <;> first | exact bZ_d0 (by omega) | omega), gX_cast ⟨tb, tn, tm, htn, hfit, htm, by rw [ht]; exact hP⟩ (show (σ) = (σ) from by rfl)⟩, hS.F ht⟩, ex2_0 (by (simp only [inb, noThing_iff, noThing_niff, Bool.not_eq_true', Bool.not_eq_false', Bool.or_eq_true, Bool.or_eq_false_iff, decide_eq_true_eq, decide_eq_false_iff_not] <;> omega)) (by rfl)⟩) hS.2.2 dX1_knows_61
        · refine lv_iconst (v := iZ 1) hx hb dX1_knows_56 rfl ?_
          refine lv_goto (tgt := 61) hx hb dX1_knows_57 (by decide) ?_
          refine W.widen (k := 2) (n := 12) (Nat.le_of_ble_eq_true rfl) (Nat.le_of_ble_eq_true rfl) ?_
          refine vx_ret ?_
          exact W.zret (v := iZ 1) (ty := .boolean) hx hb hr rfl (fun t ht hW => ⟨⟨⟨congrArg (fun z : Int => Outcome.returned (some (Value.int (iZ z)))) (show 1 = (bZ (knw kd w0)) from by unfold knw; (repeat' split) <;> first | exact bZ_d1 (by omega) | omega), gX_cast ⟨tb, tn, tm, htn, hfit, htm, by rw [ht]; exact hP⟩ (show (σ) = (σ) from by rfl)⟩, hS.F ht⟩, ex2_0 (by (simp only [inb, noThing_iff, noThing_niff, Bool.not_eq_true', Bool.not_eq_false', Bool.or_eq_true, Bool.or_eq_false_iff, decide_eq_true_eq, decide_eq_false_iff_not] <;> omega)) (by rfl)⟩) hS.2.2 dX1_knows_61
  by_cases c_8 : kd = 1
  · refine lv_lookup (tgt := 62) (off := 48) hx hb dX1_knows_14 (by decide) (by rw [iZ_toInt (z := kd) (by omega), show kd = 1 from by omega]; rfl) (by decide) ?_
    refine lv_iload_n hx hb dX1_knows_62 rfl (lv_at hl 2 rfl) ?_
    refine lv_iconst (v := iZ 3) hx hb dX1_knows_63 rfl ?_
    refine kz_icmp_lt (tgt := 72) hx hb (by omega) (by omega) dX1_knows_64 (by decide) (fun c_9 => ?_) (fun c_9 => ?_)
    · refine lv_iload_n hx hb dX1_knows_72 rfl (lv_at hl 2 rfl) ?_
      refine lv_bipush (v := iZ 8) hx hb dX1_knows_73 rfl ?_
      refine kz_icmp_lt (tgt := 82) hx hb (by omega) (by omega) dX1_knows_75 (by decide) (fun c_10 => ?_) (fun c_10 => ?_)
      · refine lv_iconst (v := iZ 0) hx hb dX1_knows_82 rfl ?_
        refine W.widen (k := 2) (n := 12) (Nat.le_of_ble_eq_true rfl) (Nat.le_of_ble_eq_true rfl) ?_
        refine vx_ret ?_
        exact W.zret (v := iZ 0) (ty := .boolean) hx hb hr rfl (fun t ht hW => ⟨⟨⟨congrArg (fun z : Int => Outcome.returned (some (Value.int (iZ z)))) (show 0 = (bZ (knw kd w0)) from by unfold knw; (repeat' split) <;> first | exact bZ_d0 (by omega) | omega), gX_cast ⟨tb, tn, tm, htn, hfit, htm, by rw [ht]; exact hP⟩ (show (σ) = (σ) from by rfl)⟩, hS.F ht⟩, ex2_0 (by (simp only [inb, noThing_iff, noThing_niff, Bool.not_eq_true', Bool.not_eq_false', Bool.or_eq_true, Bool.or_eq_false_iff, decide_eq_true_eq, decide_eq_false_iff_not] <;> omega)) (by rfl)⟩) hS.2.2 dX1_knows_83
      · refine lv_iconst (v := iZ 1) hx hb dX1_knows_78 rfl ?_
        refine lv_goto (tgt := 83) hx hb dX1_knows_79 (by decide) ?_
        refine W.widen (k := 2) (n := 12) (Nat.le_of_ble_eq_true rfl) (Nat.le_of_ble_eq_true rfl) ?_
        refine vx_ret ?_
        exact W.zret (v := iZ 1) (ty := .boolean) hx hb hr rfl (fun t ht hW => ⟨⟨⟨congrArg (fun z : Int => Outcome.returned (some (Value.int (iZ z)))) (show 1 = (bZ (knw kd w0)) from by unfold knw; (repeat' split) <;> first | exact bZ_d1 (by omega) | omega), gX_cast ⟨tb, tn, tm, htn, hfit, htm, by rw [ht]; exact hP⟩ (show (σ) = (σ) from by rfl)⟩, hS.F ht⟩, ex2_0 (by (simp only [inb, noThing_iff, noThing_niff, Bool.not_eq_true', Bool.not_eq_false', Bool.or_eq_true, Bool.or_eq_false_iff, decide_eq_true_eq, decide_eq_false_iff_not] <;> omega)) (by rfl)⟩) hS.2.2 dX1_knows_83
    · refine lv_iload_n hx hb dX1_knows_67 rfl (lv_at hl 2 rfl) ?_
      refine lv_iconst (v := iZ 5) hx hb dX1_knows_68 rfl ?_
      refine kz_icmp_le (tgt := 78) hx hb (by omega) (by omega) dX1_knows_69 (by decide) (fun c_11 => ?_) (fun c_11 => ?_)
      · refine lv_iconst (v := iZ 1) hx hb dX1_knows_78 rfl ?_
        refine lv_goto (tgt := 83) hx hb dX1_knows_79 (by decide) ?_
        refine W.widen (k := 2) (n := 12) (Nat.le_of_ble_eq_true rfl) (Nat.le_of_ble_eq_true rfl) ?_
        refine vx_ret ?_
        exact W.zret (v := iZ 1) (ty := .boolean) hx hb hr rfl (fun t ht hW => ⟨⟨⟨congrArg (fun z : Int => Outcome.returned (some (Value.int (iZ z)))) (show 1 = (bZ (knw kd w0)) from by unfold knw; (repeat' split) <;> first | exact bZ_d1 (by omega) | omega), gX_cast ⟨tb, tn, tm, htn, hfit, htm, by rw [ht]; exact hP⟩ (show (σ) = (σ) from by rfl)⟩, hS.F ht⟩, ex2_0 (by (simp only [inb, noThing_iff, noThing_niff, Bool.not_eq_true', Bool.not_eq_false', Bool.or_eq_true, Bool.or_eq_false_iff, decide_eq_true_eq, decide_eq_false_iff_not] <;> omega)) (by rfl)⟩) hS.2.2 dX1_knows_83
      · refine lv_iload_n hx hb dX1_knows_72 rfl (lv_at hl 2 rfl) ?_
        refine lv_bipush (v := iZ 8) hx hb dX1_knows_73 rfl ?_
        refine kz_icmp_lt (tgt := 82) hx hb (by omega) (by omega) dX1_knows_75 (by decide) (fun c_12 => ?_) (fun c_12 => ?_)
        · refine lv_iconst (v := iZ 0) hx hb dX1_knows_82 rfl ?_
          refine W.widen (k := 2) (n := 12) (Nat.le_of_ble_eq_true rfl) (Nat.le_of_ble_eq_true rfl) ?_
          refine vx_ret ?_
          exact W.zret (v := iZ 0) (ty := .boolean) hx hb hr rfl (fun t ht hW => ⟨⟨⟨congrArg (fun z : Int => Outcome.returned (some (Value.int (iZ z)))) (show 0 = (bZ (knw kd w0)) from by unfold knw; (repeat' split) <;> first | exact bZ_d0 (by omega) | omega), gX_cast ⟨tb, tn, tm, htn, hfit, htm, by rw [ht]; exact hP⟩ (show (σ) = (σ) from by rfl)⟩, hS.F ht⟩, ex2_0 (by (simp only [inb, noThing_iff, noThing_niff, Bool.not_eq_true', Bool.not_eq_false', Bool.or_eq_true, Bool.or_eq_false_iff, decide_eq_true_eq, decide_eq_false_iff_not] <;> omega)) (by rfl)⟩) hS.2.2 dX1_knows_83
        · refine lv_iconst (v := iZ 1) hx hb dX1_knows_78 rfl ?_
          refine lv_goto (tgt := 83) hx hb dX1_knows_79 (by decide) ?_
          refine W.widen (k := 2) (n := 12) (Nat.le_of_ble_eq_true rfl) (Nat.le_of_ble_eq_true rfl) ?_
          refine vx_ret ?_
          exact W.zret (v := iZ 1) (ty := .boolean) hx hb hr rfl (fun t ht hW => ⟨⟨⟨congrArg (fun z : Int => Outcome.returned (some (Value.int (iZ z)))) (show 1 = (bZ (knw kd w0)) from by unfold knw; (repeat' split) <;> first | exact bZ_d1 (by omega) | omega), gX_cast ⟨tb, tn, tm, htn, hfit, htm, by rw [ht]; exact hP⟩ (show (σ) = (σ) from by rfl)⟩, hS.F ht⟩, ex2_0 (by (simp only [inb, noThing_iff, noThing_niff, Bool.not_eq_true', Bool.not_eq_false', Bool.or_eq_true, Bool.or_eq_false_iff, decide_eq_true_eq, decide_eq_false_iff_not] <;> omega)) (by rfl)⟩) hS.2.2 dX1_knows_83
  refine lv_lookup (tgt := 84) (off := 70) hx hb dX1_knows_14 (by decide) (by rw [iZ_toInt (z := kd) (by omega)]; exact kz_look2 (by omega) (by omega)) (by decide) ?_
  refine lv_iload_n hx hb dX1_knows_84 rfl (lv_at hl 2 rfl) ?_
  refine lv_iconst (v := iZ 1) hx hb dX1_knows_85 rfl ?_
  refine kz_icmp_gt (tgt := 93) hx hb (by omega) (by omega) dX1_knows_86 (by decide) (fun c_13 => ?_) (fun c_13 => ?_)
  · refine lv_iconst (v := iZ 0) hx hb dX1_knows_93 rfl ?_
    refine W.widen (k := 2) (n := 12) (Nat.le_of_ble_eq_true rfl) (Nat.le_of_ble_eq_true rfl) ?_
    refine vx_ret ?_
    exact W.zret (v := iZ 0) (ty := .boolean) hx hb hr rfl (fun t ht hW => ⟨⟨⟨congrArg (fun z : Int => Outcome.returned (some (Value.int (iZ z)))) (show 0 = (bZ (knw kd w0)) from by unfold knw; (repeat' split) <;> first | exact bZ_d0 (by omega) | omega), gX_cast ⟨tb, tn, tm, htn, hfit, htm, by rw [ht]; exact hP⟩ (show (σ) = (σ) from by rfl)⟩, hS.F ht⟩, ex2_0 (by (simp only [inb, noThing_iff, noThing_niff, Bool.not_eq_true', Bool.not_eq_false', Bool.or_eq_true, Bool.or_eq_false_iff, decide_eq_true_eq, decide_eq_false_iff_not] <;> omega)) (by rfl)⟩) hS.2.2 dX1_knows_94
  · refine lv_iconst (v := iZ 1) hx hb dX1_knows_89 rfl ?_
    refine lv_goto (tgt := 94) hx hb dX1_knows_90 (by decide) ?_
    refine W.widen (k := 2) (n := 12) (Nat.le_of_ble_eq_true rfl) (Nat.le_of_ble_eq_true rfl) ?_
    refine vx_ret ?_
    exact W.zret (v := iZ 1) (ty := .boolean) hx hb hr rfl (fun t ht hW => ⟨⟨⟨congrArg (fun z : Int => Outcome.returned (some (Value.int (iZ z)))) (show 1 = (bZ (knw kd w0)) from by unfold knw; (repeat' split) <;> first | exact bZ_d1 (by omega) | omega), gX_cast ⟨tb, tn, tm, htn, hfit, htm, by rw [ht]; exact hP⟩ (show (σ) = (σ) from by rfl)⟩, hS.F ht⟩, ex2_0 (by (simp only [inb, noThing_iff, noThing_niff, Bool.not_eq_true', Bool.not_eq_false', Bool.or_eq_true, Bool.or_eq_false_iff, decide_eq_true_eq, decide_eq_false_iff_not] <;> omega)) (by rfl)⟩) hS.2.2 dX1_knows_94

abbrev ww_X1_house : List Cond := .code yX1_house cX1_house 4 (some .int) :: gT
set_option maxHeartbeats 4000000 in
set_option maxRecDepth 100000 in
theorem c_X1_house (l : Launch) (hst : l.stackTraces = false) (dC : Nat → ClassId) (dI : Nat → Nat → Nat) (dA : Nat → ClassId) (k : Nat → Nat) (q : Nat → Nat) (σ : Nat → Nat → Int) (H0 : Heap) (hG : gX dC dI dA q σ H0) (hOK : kOK σ) (hq : kQI q k) (w0 : Int) (rw0 : -2147483648 ≤ w0 ∧ w0 < 2147483648) : vx_Met l yX1_house ww_X1_house ({ frames := 9, cells := 1, slots := 6, locals := 322 }) (va_Pc [.ref (q 0), .int (iZ w0)] (fun U => U.heap = H0 ∧ kM dC dI dA k U)) (kQ2x (ex2 (!inb w0 0 4) (false) = 0) (some (.int (iZ (hsR σ w0)))) (gX dC dI dA q (σ)) (kA q H0.size)) (kXC (fun E => ex2 (!inb w0 0 4) (false) = 1 ∧ E = "java/lang/IllegalArgumentException")) 1 6 (kA q H0.size) := by
  refine vx_ofW (cc := cX1_house) (maxL := 4) (ret := (some .int)) (by decide) rfl ?_
  intro p e s m args below meth c s₁ B hml hno hv
  obtain ⟨rfl, hH, hM⟩ := hv
  subst hH
  have hB := hM.2.1
  obtain ⟨tb, tn, tm, htn, hfit, htm, hP⟩ := hG
  have hS : va_S (kA q s.heap.size) s.heap s.heap [] := va_S.rf
  have hx := B.exec
  have hb := B.bytes
  have hr := B.returns
  have hts := atoms_spec (ws := ww_X1_house) B.pre
  have hown : s.vm.findClass RX1 = some m.cls := findClass_of_methodNamed B.named
  have hlocks := B.notSynchronized
  have hl := lv_entry ([.ref (q 0), .int (iZ w0)]) (n := 4) (Nat.le_of_ble_eq_true rfl)
  rw [lg_entry_eq]
  generalize (lg_sl ([.ref (q 0), .int (iZ w0)]) ++ List.replicate (4 - (lg_sl ([.ref (q 0), .int (iZ w0)])).length) Slot.unset).toArray = ls at hl ⊢
  have hl : lv_has ls 4 [(0, .ref (q 0)), (1, .int (iZ w0))] := hl
  refine lv_iload_n hx hb dX1_house_0 rfl (lv_at hl 1 rfl) ?_
  refine lv_iconst (v := iZ 0) hx hb dX1_house_1 rfl ?_
  refine lv_iconst (v := iZ 4) hx hb dX1_house_2 rfl ?_
  refine kcxo (fun _ q => q) (vx_runS (As := [.int (iZ w0), .int (iZ 0), .int (iZ 4)]) (rest := []) ⟨hx, hb, hml, hown, hts⟩ (c_X1_needWithin l hst k _ (w0) (0) (4) (by omega) (by omega) (by omega)) (va_cwS 3 hts (kg_S mw228 mw229 mw42 rfl mw230) rfl rfl rfl hdS_X1_needWithin ⟨Nat.le_of_ble_eq_true rfl, Nat.le_of_ble_eq_true rfl⟩) ⟨fun a U g mk q => ⟨q.1, q.2.1, kB_call q.2.2⟩, fun U hU hW => ⟨rfl, hU, kB_same hB hU hW⟩⟩ rfl rfl hl.1 rfl (lv_room (Nat.le_of_ble_eq_true rfl)) dX1_house_3 ⟨Nat.le_of_ble_eq_true rfl, Nat.le_of_ble_eq_true rfl⟩) hno hlocks (fun E h => ⟨ex2_1 (by have h9 := h.2; (simp only [inb, noThing_iff, noThing_niff, Bool.not_eq_true', Bool.not_eq_false', Bool.or_eq_true, Bool.or_eq_false_iff, decide_eq_true_eq, decide_eq_false_iff_not] <;> omega)), h.1⟩) (Nat.le_of_ble_eq_true rfl) (Nat.le_of_ble_eq_true rfl) (fun g_1 => ?_)
  have g_1 : (0) ≤ (w0) ∧ (w0) ≤ (4) := g_1
  refine lv_iload_n hx hb dX1_house_6 rfl (lv_at hl 1 rfl) ?_
  refine lv_iconst (v := iZ 4) hx hb dX1_house_7 rfl ?_
  refine kz_icmp_ne (tgt := 16) hx hb (by omega) (by omega) dX1_house_8 (by decide) (fun c_2 => ?_) (fun c_2 => ?_)
  · refine lv_iconst (v := iZ 0) hx hb dX1_house_16 rfl ?_
    refine lv_istore_n (lv' := [(2, .int (iZ 0)), (0, .ref (q 0)), (1, .int (iZ w0))]) hx hb dX1_house_17 rfl hl (by decide) rfl (fun ls hl => ?_)
    refine lv_iconst (v := iZ 0) hx hb dX1_house_18 rfl ?_
    refine lv_istore_n (lv' := [(3, .int (iZ 0)), (2, .int (iZ 0)), (0, .ref (q 0)), (1, .int (iZ w0))]) hx hb dX1_house_19 rfl hl (by decide) rfl (fun ls hl => ?_)
    refine lv_iload_n hx hb dX1_house_20 rfl (lv_at hl 0 rfl) ?_
    refine lv_iconst (v := iZ 4) hx hb dX1_house_21 rfl ?_
    refine kz_icmp_ge (tgt := 43) hx hb (by omega) (by omega) dX1_house_22 (by decide) (fun c_3 => absurd c_3 (by omega)) (fun c_3 => ?_)
    refine lv_iload_n hx hb dX1_house_25 rfl (lv_at hl 1 rfl) ?_
    refine lv_aload_n hx hb dX1_house_26 rfl (lv_at hl 2 rfl) ?_
    refine lv_iload_n hx hb dX1_house_27 rfl (lv_at hl 0 rfl) ?_
    refine lv_iload_n hx hb dX1_house_28 rfl (lv_at hl 3 rfl) ?_
    refine kc0 (fun _ q => q) (va_runV (As := [.int (iZ 0), .int (iZ w0)]) (rest := [.int (iZ 0)]) ⟨hx, hb, hml, hown, hts⟩ (c_X1_isCounted l dC dI dA k q (σ) _ ⟨tb, tn, tm, htn, hfit, htm, hP⟩ (hOK) 0 (w0) (by omega) (by omega)) (cwV 2 hts (kg_V mw592 mw593 mw18 mw42 rfl mw594) rfl rfl rfl hdV_X1_isCounted ⟨Nat.le_of_ble_eq_true rfl, Nat.le_of_ble_eq_true rfl⟩) ⟨fun a U g mk q => ⟨q.1, q.2.1, kM_call q.2.2⟩, va_recv hM.1 hP (ci := 4) (q0 := 0) rfl rfl, fun U hU hW => ⟨rfl, hU, kM_same hM hU hW⟩⟩ rfl rfl hl.1 rfl (lv_room (Nat.le_of_ble_eq_true rfl)) dX1_house_29 ⟨Nat.le_of_ble_eq_true rfl, Nat.le_of_ble_eq_true rfl⟩) ?_
    refine kc0 (fun _ q => q) (va_runS (As := [.int (iZ (bZ (counted σ ((w0)) 0)))]) (rest := [.int (iZ 0)]) ⟨hx, hb, hml, hown, hts⟩ (c_X1_oneIf l _ (counted σ ((w0)) 0)) (va_cwS 1 hts (kg_S mw176 mw177 mw42 rfl mw178) rfl rfl rfl hdS_X1_oneIf ⟨Nat.le_of_ble_eq_true rfl, Nat.le_of_ble_eq_true rfl⟩) ⟨fun a U g mk q => q, fun U hU hW => ⟨rfl, hU⟩⟩ rfl rfl hl.1 rfl (lv_room (Nat.le_of_ble_eq_true rfl)) dX1_house_32 ⟨Nat.le_of_ble_eq_true rfl, Nat.le_of_ble_eq_true rfl⟩) ?_
    refine kz_iadd hx hb dX1_house_35 ?_
    refine lv_istore_n (lv' := [(2, .int (iZ (0 + (bZ ((counted σ ((w0)) 0)))))), (3, .int (iZ 0)), (0, .ref (q 0)), (1, .int (iZ w0))]) hx hb dX1_house_36 rfl hl (by decide) rfl (fun ls hl => ?_)
    refine lv_iinc (v := iZ (1)) (lv' := [(3, .int (iZ 1)), (2, .int (iZ (0 + (bZ ((counted σ ((w0)) 0)))))), (0, .ref (q 0)), (1, .int (iZ w0))]) hx hb dX1_house_37 hl (k := 1) rfl rfl (by decide) rfl (fun ls hl => ?_)
    refine lv_goto (tgt := 20) hx hb dX1_house_40 (by decide) ?_
    refine lv_iload_n hx hb dX1_house_20 rfl (lv_at hl 0 rfl) ?_
    refine lv_iconst (v := iZ 4) hx hb dX1_house_21 rfl ?_
    refine kz_icmp_ge (tgt := 43) hx hb (by omega) (by omega) dX1_house_22 (by decide) (fun c_4 => absurd c_4 (by omega)) (fun c_4 => ?_)
    refine lv_iload_n hx hb dX1_house_25 rfl (lv_at hl 1 rfl) ?_
    refine lv_aload_n hx hb dX1_house_26 rfl (lv_at hl 2 rfl) ?_
    refine lv_iload_n hx hb dX1_house_27 rfl (lv_at hl 0 rfl) ?_
    refine lv_iload_n hx hb dX1_house_28 rfl (lv_at hl 3 rfl) ?_
    refine kc0 (fun _ q => q) (va_runV (As := [.int (iZ 1), .int (iZ w0)]) (rest := [.int (iZ (0 + (bZ ((counted σ ((w0)) 0)))))]) ⟨hx, hb, hml, hown, hts⟩ (c_X1_isCounted l dC dI dA k q (σ) _ ⟨tb, tn, tm, htn, hfit, htm, hP⟩ (hOK) 1 (w0) (by omega) (by omega)) (cwV 2 hts (kg_V mw592 mw593 mw18 mw42 rfl mw594) rfl rfl rfl hdV_X1_isCounted ⟨Nat.le_of_ble_eq_true rfl, Nat.le_of_ble_eq_true rfl⟩) ⟨fun a U g mk q => ⟨q.1, q.2.1, kM_call q.2.2⟩, va_recv hM.1 hP (ci := 4) (q0 := 0) rfl rfl, fun U hU hW => ⟨rfl, hU, kM_same hM hU hW⟩⟩ rfl rfl hl.1 rfl (lv_room (Nat.le_of_ble_eq_true rfl)) dX1_house_29 ⟨Nat.le_of_ble_eq_true rfl, Nat.le_of_ble_eq_true rfl⟩) ?_
    refine kc0 (fun _ q => q) (va_runS (As := [.int (iZ (bZ (counted σ ((w0)) 1)))]) (rest := [.int (iZ (0 + (bZ ((counted σ ((w0)) 0)))))]) ⟨hx, hb, hml, hown, hts⟩ (c_X1_oneIf l _ (counted σ ((w0)) 1)) (va_cwS 1 hts (kg_S mw176 mw177 mw42 rfl mw178) rfl rfl rfl hdS_X1_oneIf ⟨Nat.le_of_ble_eq_true rfl, Nat.le_of_ble_eq_true rfl⟩) ⟨fun a U g mk q => q, fun U hU hW => ⟨rfl, hU⟩⟩ rfl rfl hl.1 rfl (lv_room (Nat.le_of_ble_eq_true rfl)) dX1_house_32 ⟨Nat.le_of_ble_eq_true rfl, Nat.le_of_ble_eq_true rfl⟩) ?_
    refine kz_iadd hx hb dX1_house_35 ?_
    refine lv_istore_n (lv' := [(2, .int (iZ ((0 + (bZ ((counted σ ((w0)) 0)))) + (bZ ((counted σ ((w0)) 1)))))), (3, .int (iZ 1)), (0, .ref (q 0)), (1, .int (iZ w0))]) hx hb dX1_house_36 rfl hl (by decide) rfl (fun ls hl => ?_)
    refine lv_iinc (v := iZ (2)) (lv' := [(3, .int (iZ 2)), (2, .int (iZ ((0 + (bZ ((counted σ ((w0)) 0)))) + (bZ ((counted σ ((w0)) 1)))))), (0, .ref (q 0)), (1, .int (iZ w0))]) hx hb dX1_house_37 hl (k := 1) rfl rfl (by decide) rfl (fun ls hl => ?_)
    refine lv_goto (tgt := 20) hx hb dX1_house_40 (by decide) ?_
    refine lv_iload_n hx hb dX1_house_20 rfl (lv_at hl 0 rfl) ?_
    refine lv_iconst (v := iZ 4) hx hb dX1_house_21 rfl ?_
    refine kz_icmp_ge (tgt := 43) hx hb (by omega) (by omega) dX1_house_22 (by decide) (fun c_5 => absurd c_5 (by omega)) (fun c_5 => ?_)
    refine lv_iload_n hx hb dX1_house_25 rfl (lv_at hl 1 rfl) ?_
    refine lv_aload_n hx hb dX1_house_26 rfl (lv_at hl 2 rfl) ?_
    refine lv_iload_n hx hb dX1_house_27 rfl (lv_at hl 0 rfl) ?_
    refine lv_iload_n hx hb dX1_house_28 rfl (lv_at hl 3 rfl) ?_
    refine kc0 (fun _ q => q) (va_runV (As := [.int (iZ 2), .int (iZ w0)]) (rest := [.int (iZ ((0 + (bZ ((counted σ ((w0)) 0)))) + (bZ ((counted σ ((w0)) 1)))))]) ⟨hx, hb, hml, hown, hts⟩ (c_X1_isCounted l dC dI dA k q (σ) _ ⟨tb, tn, tm, htn, hfit, htm, hP⟩ (hOK) 2 (w0) (by omega) (by omega)) (cwV 2 hts (kg_V mw592 mw593 mw18 mw42 rfl mw594) rfl rfl rfl hdV_X1_isCounted ⟨Nat.le_of_ble_eq_true rfl, Nat.le_of_ble_eq_true rfl⟩) ⟨fun a U g mk q => ⟨q.1, q.2.1, kM_call q.2.2⟩, va_recv hM.1 hP (ci := 4) (q0 := 0) rfl rfl, fun U hU hW => ⟨rfl, hU, kM_same hM hU hW⟩⟩ rfl rfl hl.1 rfl (lv_room (Nat.le_of_ble_eq_true rfl)) dX1_house_29 ⟨Nat.le_of_ble_eq_true rfl, Nat.le_of_ble_eq_true rfl⟩) ?_
    refine kc0 (fun _ q => q) (va_runS (As := [.int (iZ (bZ (counted σ ((w0)) 2)))]) (rest := [.int (iZ ((0 + (bZ ((counted σ ((w0)) 0)))) + (bZ ((counted σ ((w0)) 1)))))]) ⟨hx, hb, hml, hown, hts⟩ (c_X1_oneIf l _ (counted σ ((w0)) 2)) (va_cwS 1 hts (kg_S mw176 mw177 mw42 rfl mw178) rfl rfl rfl hdS_X1_oneIf ⟨Nat.le_of_ble_eq_true rfl, Nat.le_of_ble_eq_true rfl⟩) ⟨fun a U g mk q => q, fun U hU hW => ⟨rfl, hU⟩⟩ rfl rfl hl.1 rfl (lv_room (Nat.le_of_ble_eq_true rfl)) dX1_house_32 ⟨Nat.le_of_ble_eq_true rfl, Nat.le_of_ble_eq_true rfl⟩) ?_
    refine kz_iadd hx hb dX1_house_35 ?_
    refine lv_istore_n (lv' := [(2, .int (iZ (((0 + (bZ ((counted σ ((w0)) 0)))) + (bZ ((counted σ ((w0)) 1)))) + (bZ ((counted σ ((w0)) 2)))))), (3, .int (iZ 2)), (0, .ref (q 0)), (1, .int (iZ w0))]) hx hb dX1_house_36 rfl hl (by decide) rfl (fun ls hl => ?_)
    refine lv_iinc (v := iZ (3)) (lv' := [(3, .int (iZ 3)), (2, .int (iZ (((0 + (bZ ((counted σ ((w0)) 0)))) + (bZ ((counted σ ((w0)) 1)))) + (bZ ((counted σ ((w0)) 2)))))), (0, .ref (q 0)), (1, .int (iZ w0))]) hx hb dX1_house_37 hl (k := 1) rfl rfl (by decide) rfl (fun ls hl => ?_)
    refine lv_goto (tgt := 20) hx hb dX1_house_40 (by decide) ?_
    refine lv_iload_n hx hb dX1_house_20 rfl (lv_at hl 0 rfl) ?_
    refine lv_iconst (v := iZ 4) hx hb dX1_house_21 rfl ?_
    refine kz_icmp_ge (tgt := 43) hx hb (by omega) (by omega) dX1_house_22 (by decide) (fun c_6 => absurd c_6 (by omega)) (fun c_6 => ?_)
    refine lv_iload_n hx hb dX1_house_25 rfl (lv_at hl 1 rfl) ?_
    refine lv_aload_n hx hb dX1_house_26 rfl (lv_at hl 2 rfl) ?_
    refine lv_iload_n hx hb dX1_house_27 rfl (lv_at hl 0 rfl) ?_
    refine lv_iload_n hx hb dX1_house_28 rfl (lv_at hl 3 rfl) ?_
    refine kc0 (fun _ q => q) (va_runV (As := [.int (iZ 3), .int (iZ w0)]) (rest := [.int (iZ (((0 + (bZ ((counted σ ((w0)) 0)))) + (bZ ((counted σ ((w0)) 1)))) + (bZ ((counted σ ((w0)) 2)))))]) ⟨hx, hb, hml, hown, hts⟩ (c_X1_isCounted l dC dI dA k q (σ) _ ⟨tb, tn, tm, htn, hfit, htm, hP⟩ (hOK) 3 (w0) (by omega) (by omega)) (cwV 2 hts (kg_V mw592 mw593 mw18 mw42 rfl mw594) rfl rfl rfl hdV_X1_isCounted ⟨Nat.le_of_ble_eq_true rfl, Nat.le_of_ble_eq_true rfl⟩) ⟨fun a U g mk q => ⟨q.1, q.2.1, kM_call q.2.2⟩, va_recv hM.1 hP (ci := 4) (q0 := 0) rfl rfl, fun U hU hW => ⟨rfl, hU, kM_same hM hU hW⟩⟩ rfl rfl hl.1 rfl (lv_room (Nat.le_of_ble_eq_true rfl)) dX1_house_29 ⟨Nat.le_of_ble_eq_true rfl, Nat.le_of_ble_eq_true rfl⟩) ?_
    refine kc0 (fun _ q => q) (va_runS (As := [.int (iZ (bZ (counted σ ((w0)) 3)))]) (rest := [.int (iZ (((0 + (bZ ((counted σ ((w0)) 0)))) + (bZ ((counted σ ((w0)) 1)))) + (bZ ((counted σ ((w0)) 2)))))]) ⟨hx, hb, hml, hown, hts⟩ (c_X1_oneIf l _ (counted σ ((w0)) 3)) (va_cwS 1 hts (kg_S mw176 mw177 mw42 rfl mw178) rfl rfl rfl hdS_X1_oneIf ⟨Nat.le_of_ble_eq_true rfl, Nat.le_of_ble_eq_true rfl⟩) ⟨fun a U g mk q => q, fun U hU hW => ⟨rfl, hU⟩⟩ rfl rfl hl.1 rfl (lv_room (Nat.le_of_ble_eq_true rfl)) dX1_house_32 ⟨Nat.le_of_ble_eq_true rfl, Nat.le_of_ble_eq_true rfl⟩) ?_
    refine kz_iadd hx hb dX1_house_35 ?_
    refine lv_istore_n (lv' := [(2, .int (iZ ((((0 + (bZ ((counted σ ((w0)) 0)))) + (bZ ((counted σ ((w0)) 1)))) + (bZ ((counted σ ((w0)) 2)))) + (bZ ((counted σ ((w0)) 3)))))), (3, .int (iZ 3)), (0, .ref (q 0)), (1, .int (iZ w0))]) hx hb dX1_house_36 rfl hl (by decide) rfl (fun ls hl => ?_)
    refine lv_iinc (v := iZ (4)) (lv' := [(3, .int (iZ 4)), (2, .int (iZ ((((0 + (bZ ((counted σ ((w0)) 0)))) + (bZ ((counted σ ((w0)) 1)))) + (bZ ((counted σ ((w0)) 2)))) + (bZ ((counted σ ((w0)) 3)))))), (0, .ref (q 0)), (1, .int (iZ w0))]) hx hb dX1_house_37 hl (k := 1) rfl rfl (by decide) rfl (fun ls hl => ?_)
    refine lv_goto (tgt := 20) hx hb dX1_house_40 (by decide) ?_
    refine lv_iload_n hx hb dX1_house_20 rfl (lv_at hl 0 rfl) ?_
    refine lv_iconst (v := iZ 4) hx hb dX1_house_21 rfl ?_
    refine kz_icmp_ge (tgt := 43) hx hb (by omega) (by omega) dX1_house_22 (by decide) (fun c_7 => ?_) (fun c_7 => absurd c_7 (by omega))
    refine lv_iload_n hx hb dX1_house_43 rfl (lv_at hl 1 rfl) ?_
    refine W.widen (k := 1) (n := 6) (Nat.le_of_ble_eq_true rfl) (Nat.le_of_ble_eq_true rfl) ?_
    refine vx_ret ?_
    exact W.iret (v := iZ ((((0 + (bZ ((counted σ ((w0)) 0)))) + (bZ ((counted σ ((w0)) 1)))) + (bZ ((counted σ ((w0)) 2)))) + (bZ ((counted σ ((w0)) 3))))) hx hb hr (fun t ht hW => ⟨⟨⟨congrArg (fun z : Int => Outcome.returned (some (Value.int (iZ z)))) (show ((((0 + (bZ ((counted σ ((w0)) 0)))) + (bZ ((counted σ ((w0)) 1)))) + (bZ ((counted σ ((w0)) 2)))) + (bZ ((counted σ ((w0)) 3)))) = (hsR σ w0) from by unfold hsR; first | (rw [if_pos (by omega)]; done) | (rw [if_neg (by omega)]; omega)), gX_cast ⟨tb, tn, tm, htn, hfit, htm, by rw [ht]; exact hP⟩ (show (σ) = (σ) from by rfl)⟩, hS.F ht⟩, ex2_0 (by (simp only [inb, noThing_iff, noThing_niff, Bool.not_eq_true', Bool.not_eq_false', Bool.or_eq_true, Bool.or_eq_false_iff, decide_eq_true_eq, decide_eq_false_iff_not] <;> omega)) (by rfl)⟩) hS.2.2 dX1_house_44
  · refine lv_aload_n hx hb dX1_house_11 rfl (lv_at hl 0 rfl) ?_
    refine va_get (D := (dC, dI)) (ci := 4) (v := .int (iZ (σ 8 0))) (C := RX1) (T := TX1) (N := 8) hx hb hts (fun w h => List.mem_cons_of_mem _ (gF_0_in h)) hown hM.1 hP 0 rfl rfl 7 (by decide) (hts _ (List.mem_cons_of_mem _ mw104)) (fun _ h9 => h9) rfl dX1_house_12 ?_
    refine W.widen (k := 1) (n := 6) (Nat.le_of_ble_eq_true rfl) (Nat.le_of_ble_eq_true rfl) ?_
    refine vx_ret ?_
    exact W.iret (v := iZ (σ 8 0)) hx hb hr (fun t ht hW => ⟨⟨⟨congrArg (fun z : Int => Outcome.returned (some (Value.int (iZ z)))) (show (σ 8 0) = (hsR σ w0) from by unfold hsR; first | (rw [if_pos (by omega)]; done) | (rw [if_neg (by omega)]; omega)), gX_cast ⟨tb, tn, tm, htn, hfit, htm, by rw [ht]; exact hP⟩ (show (σ) = (σ) from by rfl)⟩, hS.F ht⟩, ex2_0 (by (simp only [inb, noThing_iff, noThing_niff, Bool.not_eq_true', Bool.not_eq_false', Bool.or_eq_true, Bool.or_eq_false_iff, decide_eq_true_eq, decide_eq_false_iff_not] <;> omega)) (by rfl)⟩) hS.2.2 dX1_house_15

