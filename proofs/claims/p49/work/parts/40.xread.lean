/-! the state as numbers: s 0 j, s 1 j: year and month of the leaf j; s 2 j: the year; s 3 j, s 4 j: the feast; s 5 j, s 6 j, s 7 j: the day; s 8 0: the knocks -/
def cnt (y m : Int) : Int := 12 * y + m - 1
theorem yearOf_cnt {y m : Int} (h : 1 ≤ m ∧ m ≤ 12) : yearOf (cnt y m) = y := by unfold yearOf cnt; omega
theorem monOf_cnt {y m : Int} (h : 1 ≤ m ∧ m ≤ 12) : monOf (cnt y m) = m := by unfold monOf cnt; omega
theorem lenOf_cnt {y m : Int} (h : 1 ≤ m ∧ m ≤ 12) : lenOf (cnt y m) = mlen (leap y) m := by unfold lenOf; rw [yearOf_cnt h, monOf_cnt h]
def kOK (σ : Nat → Nat → Int) : Prop := ∀ j : Nat, j < 4 → (-999999999 ≤ σ 0 j ∧ σ 0 j ≤ 999999999 ∧ 1 ≤ σ 1 j ∧ σ 1 j ≤ 12) ∧ (-999999999 ≤ σ 2 j ∧ σ 2 j ≤ 999999999) ∧ (1 ≤ σ 3 j ∧ σ 3 j ≤ 12 ∧ 1 ≤ σ 4 j ∧ σ 4 j ≤ mlen true (σ 3 j)) ∧ (-999999999 ≤ σ 5 j ∧ σ 5 j ≤ 999999999 ∧ 1 ≤ σ 6 j ∧ σ 6 j ≤ 12 ∧ 1 ≤ σ 7 j ∧ σ 7 j ≤ mlen (leap (σ 5 j)) (σ 6 j))
theorem kOKr {σ : Nat → Nat → Int} (h : kOK σ) {j : Nat} (hj : j < 4) : (-999999999 ≤ σ 0 j ∧ σ 0 j ≤ 999999999 ∧ 1 ≤ σ 1 j ∧ σ 1 j ≤ 12) ∧ (-999999999 ≤ σ 2 j ∧ σ 2 j ≤ 999999999) ∧ (1 ≤ σ 3 j ∧ σ 3 j ≤ 12 ∧ 1 ≤ σ 4 j ∧ σ 4 j ≤ 31) ∧ (-999999999 ≤ σ 5 j ∧ σ 5 j ≤ 999999999 ∧ 1 ≤ σ 6 j ∧ σ 6 j ≤ 12 ∧ 1 ≤ σ 7 j ∧ σ 7 j ≤ 31) ∧ (-12000000000 ≤ cnt (σ 0 j) (σ 1 j) ∧ cnt (σ 0 j) (σ 1 j) ≤ 12000000000) ∧ (-12000000000 ≤ cnt (σ 5 j) (σ 6 j) ∧ cnt (σ 5 j) (σ 6 j) ≤ 12000000000) := by
  obtain ⟨h1, h2, h3, h4⟩ := h j hj
  have h5 := mlen_rng true (σ 3 j)
  have h6 := mlen_rng (leap (σ 5 j)) (σ 6 j)
  unfold cnt
  omega
def kX (q : Nat → Nat) (dA : Nat → ClassId) (σ : Nat → Nat → Int) (tb : Nat → Int32) (tn tm : Int32) : va_W :=
  [(q 0, .inr (4, [.ref (q 1), .ref (q 2), .ref (q 3), .ref (q 4), .ref (q 5), .ref (q 6), .ref (q 7), .int (iZ (σ 8 0))])),
   (q 1, .inl (dA 1, 4, .inr (.inl (fun j => lZ (cnt (σ 0 j) (σ 1 j)))))), (q 2, .inl (dA 0, 4, .inl (fun j => iZ (σ 2 j)))), (q 3, .inl (dA 0, 4, .inl (fun j => iZ (σ 3 j)))), (q 4, .inl (dA 0, 4, .inl (fun j => iZ (σ 4 j)))),
   (q 5, .inl (dA 1, 4, .inr (.inl (fun j => lZ (cnt (σ 5 j) (σ 6 j)))))), (q 6, .inl (dA 0, 4, .inl (fun j => iZ (σ 7 j)))),
   (q 7, .inr (1, [.ref (q 8), .int 0, .int tm, .int tn])), (q 8, .inl (dA 2, 16, .inl tb))]
/-- the class's object q 0 and what hangs on it, with the state σ -/
def gX (dC : Nat → ClassId) (dI : Nat → Nat → Nat) (dA : Nat → ClassId) (q : Nat → Nat) (σ : Nat → Nat → Int) (H : Heap) : Prop :=
  ∃ (tb : Nat → Int32) (tn : Nat) (tm : Int32), tn ≤ 16 ∧ sb_Fit tb ∧ (tm = 0 ∨ tm = 1) ∧ va_P (dC, dI) vwCl (kX q dA σ tb (nI tn) tm) H
section
variable {p : Program} {l : Launch} {e : Env} {R : Room} {s : State} {m : MethodId} {args : Array Value} {below : List Frame} {meth : Method} {c : Code} {H : Heap} {locs : List Loc} {cells slots : Nat} {Q : State → Prop}
variable {cc : ByteArray} {pc : Nat} {ls : Array Slot} {rest : List Value} {D : va_G} {cl : List vw_C} {A : Nat → Prop} {a : Nat} {tys : List (ClassId × FieldType)} {ws : va_W} {H0 : Heap}
theorem kz_iald (hx : p.tables.exec = Jvm.exec) (hb : c.code = cc) (hK : va_K D cl tys s) (hP : va_P D cl ws H) (q0 t0 : Nat) {cA : ClassId} {n : Nat} {f : Nat → Int32} (ha : ws[q0]? = some (a, .inl (cA, n, .inl f))) (ht : tys[t0]? = some (cA, .int)) {z v : Int} (hz : 0 ≤ z ∧ z < n) (hn : n < 2147483648) (hv : f z.toNat = iZ v) (hdg : decode cc pc = .ok (.iaload, 1))
    (kk : W p l e R s m args below meth c H locs cells slots Q (F0 m (pc + 1) ls (.int (iZ v) :: rest))) : W p l e R s m args below meth c H locs cells slots Q (F0 m pc ls (.int (iZ z) :: .ref a :: rest)) := by
  refine va_iald hx hb hK hP q0 t0 ha ht (iZ_idx hz hn) hdg ?_
  rw [iZ_cl ⟨by omega, by omega⟩, hv]
  exact kk
theorem kz_lald (hx : p.tables.exec = Jvm.exec) (hb : c.code = cc) (hK : va_K D cl tys s) (hP : va_P D cl ws H) (q0 t0 : Nat) {cA : ClassId} {n : Nat} {f : Nat → Int64} (ha : ws[q0]? = some (a, .inl (cA, n, .inr (.inl f)))) (ht : tys[t0]? = some (cA, .long)) {z v : Int} (hz : 0 ≤ z ∧ z < n) (hn : n < 2147483648) (hv : f z.toNat = lZ v) (hdg : decode cc pc = .ok (.laload, 1))
    (kk : W p l e R s m args below meth c H locs cells slots Q (F0 m (pc + 1) ls (.long (lZ v) :: rest))) : W p l e R s m args below meth c H locs cells slots Q (F0 m pc ls (.int (iZ z) :: .ref a :: rest)) := by
  refine va_lald hx hb hK hP q0 t0 ha ht (iZ_idx hz hn) hdg ?_
  rw [iZ_cl ⟨by omega, by omega⟩, hv]
  exact kk
end
abbrev ww_X1_feastRank : List Cond := .code yX1_feastRank cX1_feastRank 2 (some .int) :: gT
set_option maxHeartbeats 4000000 in
set_option maxRecDepth 100000 in
theorem c_X1_feastRank (l : Launch) (dC : Nat → ClassId) (dI : Nat → Nat → Nat) (dA : Nat → ClassId) (k : Nat → Nat) (q : Nat → Nat) (σ : Nat → Nat → Int) (H0 : Heap) (hG : gX dC dI dA q σ H0) (hOK : kOK σ) (pj : Nat) (hpj : pj < 4) : Met l yX1_feastRank ww_X1_feastRank ({ frames := 0, cells := 0, slots := 0, locals := 0 }) (va_Pc [.ref (q 0), .int (iZ ((pj : Nat) : Int))] (fun U => U.heap = H0 ∧ kM dC dI dA k U)) (kQ0 (some (.int (iZ (32 * σ 3 pj + σ 4 pj)))) H0) 0 0 kN := by
  refine Met.ofW (cc := cX1_feastRank) (maxL := 2) (ret := (some .int)) (by decide) rfl ?_
  intro p e s m args below meth c s₁ B hml hv
  obtain ⟨rfl, hH, hM⟩ := hv
  subst hH
  obtain ⟨tb, tn, tm, htn, hfit, htm, hP⟩ := hG
  have o_pj := kOKr hOK hpj
  have hx := B.exec
  have hb := B.bytes
  have hr := B.returns
  have hts := atoms_spec (ws := ww_X1_feastRank) B.pre
  have hown : s.vm.findClass RX1 = some m.cls := findClass_of_methodNamed B.named
  have hlocks := B.notSynchronized
  have hl := lv_entry ([.ref (q 0), .int (iZ ((pj : Nat) : Int))]) (n := 2) (Nat.le_of_ble_eq_true rfl)
  rw [lg_entry_eq]
  generalize (lg_sl ([.ref (q 0), .int (iZ ((pj : Nat) : Int))]) ++ List.replicate (2 - (lg_sl ([.ref (q 0), .int (iZ ((pj : Nat) : Int))])).length) Slot.unset).toArray = ls at hl ⊢
  have hl : lv_has ls 2 [(0, .ref (q 0)), (1, .int (iZ ((pj : Nat) : Int)))] := hl
  refine lv_aload_n hx hb dX1_feastRank_0 rfl (lv_at hl 0 rfl) ?_
  refine va_get (D := (dC, dI)) (ci := 4) (v := .ref (q 3)) (C := RX1) (T := TX1) (N := 8) hx hb hts (fun w h => List.mem_cons_of_mem _ (gF_0_in h)) hown hM.1 hP 0 rfl rfl 2 (by decide) (hts _ (List.mem_cons_of_mem _ mw99)) (fun _ h9 => h9) rfl dX1_feastRank_1 ?_
  refine lv_iload_n hx hb dX1_feastRank_4 rfl (lv_at hl 1 rfl) ?_
  refine kz_iald (v := σ 3 pj) hx hb hM.1 hP 3 0 rfl rfl (by omega) (by decide) rfl dX1_feastRank_5 ?_
  refine lv_bipush (v := iZ 32) hx hb dX1_feastRank_6 rfl ?_
  refine kz_imul hx hb dX1_feastRank_8 ?_
  refine lv_aload_n hx hb dX1_feastRank_9 rfl (lv_at hl 0 rfl) ?_
  refine va_get (D := (dC, dI)) (ci := 4) (v := .ref (q 4)) (C := RX1) (T := TX1) (N := 8) hx hb hts (fun w h => List.mem_cons_of_mem _ (gF_0_in h)) hown hM.1 hP 0 rfl rfl 3 (by decide) (hts _ (List.mem_cons_of_mem _ mw100)) (fun _ h9 => h9) rfl dX1_feastRank_10 ?_
  refine lv_iload_n hx hb dX1_feastRank_13 rfl (lv_at hl 1 rfl) ?_
  refine kz_iald (v := σ 4 pj) hx hb hM.1 hP 4 0 rfl rfl (by omega) (by decide) rfl dX1_feastRank_14 ?_
  refine kz_iadd hx hb dX1_feastRank_15 ?_
  exact W.iret (v := iZ (((σ 3 pj) * 32) + (σ 4 pj))) hx hb hr (fun t ht hW => ⟨congrArg (fun z : Int => Outcome.returned (some (Value.int (iZ z)))) (show (((σ 3 pj) * 32) + (σ 4 pj)) = (32 * σ 3 pj + σ 4 pj) from by omega), ht⟩) (fun q h => by cases h) dX1_feastRank_16

def inYr (σ : Nat → Nat → Int) (j : Nat) (y : Int) : Bool := decide (σ 3 j ≠ 2 ∨ σ 4 j ≤ 28) || leap y
def dayIn (σ : Nat → Nat → Int) (j : Nat) (y : Int) : Int := if inYr σ j y = true then σ 4 j else 28
abbrev ww_X1_isFeastIn : List Cond := .code yX1_isFeastIn cX1_isFeastIn 3 (some .boolean) :: gT
set_option maxHeartbeats 4000000 in
set_option maxRecDepth 100000 in
theorem c_X1_isFeastIn (l : Launch) (dC : Nat → ClassId) (dI : Nat → Nat → Nat) (dA : Nat → ClassId) (k : Nat → Nat) (q : Nat → Nat) (σ : Nat → Nat → Int) (H0 : Heap) (hG : gX dC dI dA q σ H0) (hOK : kOK σ) (pj : Nat) (yy : Int) (hpj : pj < 4) (hy : -1000000000 ≤ yy ∧ yy ≤ 1000000000) : Met l yX1_isFeastIn ww_X1_isFeastIn ({ frames := 1, cells := 0, slots := 0, locals := 21 }) (va_Pc [.ref (q 0), .int (iZ ((pj : Nat) : Int)), .int (iZ yy)] (fun U => U.heap = H0 ∧ kM dC dI dA k U)) (kQ0 (some (.int (iZ (bZ (inYr σ pj yy))))) H0) 0 0 kN := by
  refine Met.ofW (cc := cX1_isFeastIn) (maxL := 3) (ret := (some .boolean)) (by decide) rfl ?_
  intro p e s m args below meth c s₁ B hml hv
  obtain ⟨rfl, hH, hM⟩ := hv
  subst hH
  obtain ⟨tb, tn, tm, htn, hfit, htm, hP⟩ := hG
  have o_pj := kOKr hOK hpj
  have hx := B.exec
  have hb := B.bytes
  have hr := B.returns
  have hts := atoms_spec (ws := ww_X1_isFeastIn) B.pre
  have hown : s.vm.findClass RX1 = some m.cls := findClass_of_methodNamed B.named
  have hlocks := B.notSynchronized
  have hl := lv_entry ([.ref (q 0), .int (iZ ((pj : Nat) : Int)), .int (iZ yy)]) (n := 3) (Nat.le_of_ble_eq_true rfl)
  rw [lg_entry_eq]
  generalize (lg_sl ([.ref (q 0), .int (iZ ((pj : Nat) : Int)), .int (iZ yy)]) ++ List.replicate (3 - (lg_sl ([.ref (q 0), .int (iZ ((pj : Nat) : Int)), .int (iZ yy)])).length) Slot.unset).toArray = ls at hl ⊢
  have hl : lv_has ls 3 [(0, .ref (q 0)), (1, .int (iZ ((pj : Nat) : Int))), (2, .int (iZ yy))] := hl
  refine lv_aload_n hx hb dX1_isFeastIn_0 rfl (lv_at hl 0 rfl) ?_
  refine va_get (D := (dC, dI)) (ci := 4) (v := .ref (q 3)) (C := RX1) (T := TX1) (N := 8) hx hb hts (fun w h => List.mem_cons_of_mem _ (gF_0_in h)) hown hM.1 hP 0 rfl rfl 2 (by decide) (hts _ (List.mem_cons_of_mem _ mw99)) (fun _ h9 => h9) rfl dX1_isFeastIn_1 ?_
  refine lv_iload_n hx hb dX1_isFeastIn_4 rfl (lv_at hl 1 rfl) ?_
  refine kz_iald (v := σ 3 pj) hx hb hM.1 hP 3 0 rfl rfl (by omega) (by decide) rfl dX1_isFeastIn_5 ?_
  refine lv_aload_n hx hb dX1_isFeastIn_6 rfl (lv_at hl 0 rfl) ?_
  refine va_get (D := (dC, dI)) (ci := 4) (v := .ref (q 4)) (C := RX1) (T := TX1) (N := 8) hx hb hts (fun w h => List.mem_cons_of_mem _ (gF_0_in h)) hown hM.1 hP 0 rfl rfl 3 (by decide) (hts _ (List.mem_cons_of_mem _ mw100)) (fun _ h9 => h9) rfl dX1_isFeastIn_7 ?_
  refine lv_iload_n hx hb dX1_isFeastIn_10 rfl (lv_at hl 1 rfl) ?_
  refine kz_iald (v := σ 4 pj) hx hb hM.1 hP 4 0 rfl rfl (by omega) (by decide) rfl dX1_isFeastIn_11 ?_
  refine kc0 (fun _ q => q) (va_runS (As := [.int (iZ (σ 3 pj)), .int (iZ (σ 4 pj))]) (rest := []) ⟨hx, hb, hml, hown, hts⟩ (c_X0_isInEachYear l _ ((σ 3 pj)) ((σ 4 pj)) (by first | omega | (have := mlen_rng (leap (σ 5 pj)) (σ 6 pj); omega)) (by first | omega | (have := mlen_rng (leap (σ 5 pj)) (σ 6 pj); omega))) (va_cwS 2 hts (kg_S mw205 mw206 mw51 rfl mw207) rfl rfl rfl hdS_X0_isInEachYear ⟨Nat.le_of_ble_eq_true rfl, Nat.le_of_ble_eq_true rfl⟩) ⟨fun a U g mk q => q, fun U hU hW => ⟨rfl, hU⟩⟩ rfl rfl hl.1 rfl (lv_room (Nat.le_of_ble_eq_true rfl)) dX1_isFeastIn_12 ⟨Nat.le_of_ble_eq_true rfl, Nat.le_of_ble_eq_true rfl⟩) ?_
  refine kz_ifb_ne (tgt := 26) hx hb  dX1_isFeastIn_15 (by decide) (fun c_1 => ?_) (fun c_1 => ?_)
  · refine lv_iconst (v := iZ 1) hx hb dX1_isFeastIn_26 rfl ?_
    refine lv_goto (tgt := 31) hx hb dX1_isFeastIn_27 (by decide) ?_
    exact W.zret (v := iZ 1) (ty := .boolean) hx hb hr rfl (fun t ht hW => ⟨congrArg (fun z : Int => Outcome.returned (some (Value.int (iZ z)))) (show 1 = (bZ (inYr σ pj yy)) from by unfold inYr; simp only [*]; rfl), ht⟩) (fun q h => by cases h) dX1_isFeastIn_31
  · refine lv_iload_n hx hb dX1_isFeastIn_18 rfl (lv_at hl 2 rfl) ?_
    refine kz_i2l hx hb (by first | omega | (have := mlen_rng (leap (σ 5 pj)) (σ 6 pj); omega)) dX1_isFeastIn_19 ?_
    refine kc0 (fun _ q => q) (va_runS (As := [.long (lZ (yy))]) (rest := []) ⟨hx, hb, hml, hown, hts⟩ (c_X0_isLeapNumber l _ (yy) (by first | omega | (have := mlen_rng (leap (σ 5 pj)) (σ 6 pj); omega))) (va_cwS 1 hts (kg_S mw109 mw110 mw51 rfl mw111) rfl rfl rfl hdS_X0_isLeapNumber ⟨Nat.le_of_ble_eq_true rfl, Nat.le_of_ble_eq_true rfl⟩) ⟨fun a U g mk q => q, fun U hU hW => ⟨rfl, hU⟩⟩ rfl rfl hl.1 rfl (lv_room (Nat.le_of_ble_eq_true rfl)) dX1_isFeastIn_20 ⟨Nat.le_of_ble_eq_true rfl, Nat.le_of_ble_eq_true rfl⟩) ?_
    refine kz_ifb_eq (tgt := 30) hx hb  dX1_isFeastIn_23 (by decide) (fun c_2 => ?_) (fun c_2 => ?_)
    · refine lv_iconst (v := iZ 0) hx hb dX1_isFeastIn_30 rfl ?_
      exact W.zret (v := iZ 0) (ty := .boolean) hx hb hr rfl (fun t ht hW => ⟨congrArg (fun z : Int => Outcome.returned (some (Value.int (iZ z)))) (show 0 = (bZ (inYr σ pj yy)) from by unfold inYr; simp only [*]; rfl), ht⟩) (fun q h => by cases h) dX1_isFeastIn_31
    · refine lv_iconst (v := iZ 1) hx hb dX1_isFeastIn_26 rfl ?_
      refine lv_goto (tgt := 31) hx hb dX1_isFeastIn_27 (by decide) ?_
      exact W.zret (v := iZ 1) (ty := .boolean) hx hb hr rfl (fun t ht hW => ⟨congrArg (fun z : Int => Outcome.returned (some (Value.int (iZ z)))) (show 1 = (bZ (inYr σ pj yy)) from by unfold inYr; simp only [*]; rfl), ht⟩) (fun q h => by cases h) dX1_isFeastIn_31

abbrev ww_X1_dayOfFeastIn : List Cond := .code yX1_dayOfFeastIn cX1_dayOfFeastIn 3 (some .int) :: gT
set_option maxHeartbeats 4000000 in
set_option maxRecDepth 100000 in
theorem c_X1_dayOfFeastIn (l : Launch) (dC : Nat → ClassId) (dI : Nat → Nat → Nat) (dA : Nat → ClassId) (k : Nat → Nat) (q : Nat → Nat) (σ : Nat → Nat → Int) (H0 : Heap) (hG : gX dC dI dA q σ H0) (hOK : kOK σ) (pj : Nat) (yy : Int) (hpj : pj < 4) (hy : -1000000000 ≤ yy ∧ yy ≤ 1000000000) : Met l yX1_dayOfFeastIn ww_X1_dayOfFeastIn ({ frames := 2, cells := 0, slots := 0, locals := 43 }) (va_Pc [.ref (q 0), .int (iZ ((pj : Nat) : Int)), .int (iZ yy)] (fun U => U.heap = H0 ∧ kM dC dI dA k U)) (kQ0 (some (.int (iZ (dayIn σ pj yy)))) H0) 0 0 kN := by
  refine Met.ofW (cc := cX1_dayOfFeastIn) (maxL := 3) (ret := (some .int)) (by decide) rfl ?_
  intro p e s m args below meth c s₁ B hml hv
  obtain ⟨rfl, hH, hM⟩ := hv
  subst hH
  obtain ⟨tb, tn, tm, htn, hfit, htm, hP⟩ := hG
  have o_pj := kOKr hOK hpj
  have hx := B.exec
  have hb := B.bytes
  have hr := B.returns
  have hts := atoms_spec (ws := ww_X1_dayOfFeastIn) B.pre
  have hown : s.vm.findClass RX1 = some m.cls := findClass_of_methodNamed B.named
  have hlocks := B.notSynchronized
  have hl := lv_entry ([.ref (q 0), .int (iZ ((pj : Nat) : Int)), .int (iZ yy)]) (n := 3) (Nat.le_of_ble_eq_true rfl)
  rw [lg_entry_eq]
  generalize (lg_sl ([.ref (q 0), .int (iZ ((pj : Nat) : Int)), .int (iZ yy)]) ++ List.replicate (3 - (lg_sl ([.ref (q 0), .int (iZ ((pj : Nat) : Int)), .int (iZ yy)])).length) Slot.unset).toArray = ls at hl ⊢
  have hl : lv_has ls 3 [(0, .ref (q 0)), (1, .int (iZ ((pj : Nat) : Int))), (2, .int (iZ yy))] := hl
  refine lv_aload_n hx hb dX1_dayOfFeastIn_0 rfl (lv_at hl 0 rfl) ?_
  refine lv_iload_n hx hb dX1_dayOfFeastIn_1 rfl (lv_at hl 1 rfl) ?_
  refine lv_iload_n hx hb dX1_dayOfFeastIn_2 rfl (lv_at hl 2 rfl) ?_
  refine kc0 (fun _ q => q) (va_runV (As := [.int (iZ ((pj : Nat) : Int)), .int (iZ yy)]) (rest := []) ⟨hx, hb, hml, hown, hts⟩ (c_X1_isFeastIn l dC dI dA k q (σ) _ ⟨tb, tn, tm, htn, hfit, htm, hP⟩ (hOK) pj (yy) (by first | omega | (have := mlen_rng (leap (σ 5 pj)) (σ 6 pj); omega)) (by first | omega | (have := mlen_rng (leap (σ 5 pj)) (σ 6 pj); omega))) (cwV 2 hts (kg_V mw202 mw203 mw4 mw42 rfl mw204) rfl rfl rfl hdV_X1_isFeastIn ⟨Nat.le_of_ble_eq_true rfl, Nat.le_of_ble_eq_true rfl⟩) ⟨fun a U g mk q => ⟨q.1, q.2.1, kM_call q.2.2⟩, va_recv hM.1 hP (ci := 4) (q0 := 0) rfl rfl, fun U hU hW => ⟨rfl, hU, kM_same hM hU hW⟩⟩ rfl rfl hl.1 rfl (lv_room (Nat.le_of_ble_eq_true rfl)) dX1_dayOfFeastIn_3 ⟨Nat.le_of_ble_eq_true rfl, Nat.le_of_ble_eq_true rfl⟩) ?_
  refine kz_ifb_eq (tgt := 18) hx hb  dX1_dayOfFeastIn_6 (by decide) (fun c_1 => ?_) (fun c_1 => ?_)
  · refine lv_bipush (v := iZ 28) hx hb dX1_dayOfFeastIn_18 rfl ?_
    exact W.iret (v := iZ 28) hx hb hr (fun t ht hW => ⟨congrArg (fun z : Int => Outcome.returned (some (Value.int (iZ z)))) (show 28 = (dayIn σ pj yy) from by unfold dayIn; simp only [*]; rfl), ht⟩) (fun q h => by cases h) dX1_dayOfFeastIn_20
  · refine lv_aload_n hx hb dX1_dayOfFeastIn_9 rfl (lv_at hl 0 rfl) ?_
    refine va_get (D := (dC, dI)) (ci := 4) (v := .ref (q 4)) (C := RX1) (T := TX1) (N := 8) hx hb hts (fun w h => List.mem_cons_of_mem _ (gF_0_in h)) hown hM.1 hP 0 rfl rfl 3 (by decide) (hts _ (List.mem_cons_of_mem _ mw100)) (fun _ h9 => h9) rfl dX1_dayOfFeastIn_10 ?_
    refine lv_iload_n hx hb dX1_dayOfFeastIn_13 rfl (lv_at hl 1 rfl) ?_
    refine kz_iald (v := σ 4 pj) hx hb hM.1 hP 4 0 rfl rfl (by omega) (by decide) rfl dX1_dayOfFeastIn_14 ?_
    refine lv_goto (tgt := 20) hx hb dX1_dayOfFeastIn_15 (by decide) ?_
    exact W.iret (v := iZ (σ 4 pj)) hx hb hr (fun t ht hW => ⟨congrArg (fun z : Int => Outcome.returned (some (Value.int (iZ z)))) (show (σ 4 pj) = (dayIn σ pj yy) from by unfold dayIn; simp only [*]; rfl), ht⟩) (fun q h => by cases h) dX1_dayOfFeastIn_20

abbrev ww_X1_numberOfFeastIn : List Cond := .code yX1_numberOfFeastIn cX1_numberOfFeastIn 3 (some .long) :: gT
set_option maxHeartbeats 4000000 in
set_option maxRecDepth 100000 in
theorem c_X1_numberOfFeastIn (l : Launch) (dC : Nat → ClassId) (dI : Nat → Nat → Nat) (dA : Nat → ClassId) (k : Nat → Nat) (q : Nat → Nat) (σ : Nat → Nat → Int) (H0 : Heap) (hG : gX dC dI dA q σ H0) (hOK : kOK σ) (pj : Nat) (yy : Int) (hpj : pj < 4) (hy : -999999999 ≤ yy ∧ yy ≤ 999999999) : Met l yX1_numberOfFeastIn ww_X1_numberOfFeastIn ({ frames := 3, cells := 0, slots := 0, locals := 75 }) (va_Pc [.ref (q 0), .int (iZ ((pj : Nat) : Int)), .int (iZ yy)] (fun U => U.heap = H0 ∧ kM dC dI dA k U)) (kQ0 (some (.long (lZ (dnum yy (σ 3 pj) (dayIn σ pj yy))))) H0) 0 0 kN := by
  refine Met.ofW (cc := cX1_numberOfFeastIn) (maxL := 3) (ret := (some .long)) (by decide) rfl ?_
  intro p e s m args below meth c s₁ B hml hv
  obtain ⟨rfl, hH, hM⟩ := hv
  subst hH
  obtain ⟨tb, tn, tm, htn, hfit, htm, hP⟩ := hG
  have o_pj := kOKr hOK hpj
  have hx := B.exec
  have hb := B.bytes
  have hr := B.returns
  have hts := atoms_spec (ws := ww_X1_numberOfFeastIn) B.pre
  have hown : s.vm.findClass RX1 = some m.cls := findClass_of_methodNamed B.named
  have hlocks := B.notSynchronized
  have hl := lv_entry ([.ref (q 0), .int (iZ ((pj : Nat) : Int)), .int (iZ yy)]) (n := 3) (Nat.le_of_ble_eq_true rfl)
  rw [lg_entry_eq]
  generalize (lg_sl ([.ref (q 0), .int (iZ ((pj : Nat) : Int)), .int (iZ yy)]) ++ List.replicate (3 - (lg_sl ([.ref (q 0), .int (iZ ((pj : Nat) : Int)), .int (iZ yy)])).length) Slot.unset).toArray = ls at hl ⊢
  have hl : lv_has ls 3 [(0, .ref (q 0)), (1, .int (iZ ((pj : Nat) : Int))), (2, .int (iZ yy))] := hl
  refine lv_iload_n hx hb dX1_numberOfFeastIn_0 rfl (lv_at hl 2 rfl) ?_
  refine lv_aload_n hx hb dX1_numberOfFeastIn_1 rfl (lv_at hl 0 rfl) ?_
  refine va_get (D := (dC, dI)) (ci := 4) (v := .ref (q 3)) (C := RX1) (T := TX1) (N := 8) hx hb hts (fun w h => List.mem_cons_of_mem _ (gF_0_in h)) hown hM.1 hP 0 rfl rfl 2 (by decide) (hts _ (List.mem_cons_of_mem _ mw99)) (fun _ h9 => h9) rfl dX1_numberOfFeastIn_2 ?_
  refine lv_iload_n hx hb dX1_numberOfFeastIn_5 rfl (lv_at hl 1 rfl) ?_
  refine kz_iald (v := σ 3 pj) hx hb hM.1 hP 3 0 rfl rfl (by omega) (by decide) rfl dX1_numberOfFeastIn_6 ?_
  refine kc0 (fun _ q => q) (va_runS (As := [.int (iZ yy), .int (iZ (σ 3 pj))]) (rest := []) ⟨hx, hb, hml, hown, hts⟩ (c_X0_countOf l _ (yy) ((σ 3 pj)) (by first | omega | (have : 1 ≤ dayIn σ pj yy ∧ dayIn σ pj yy ≤ 31 := by (unfold dayIn; split <;> omega)); first | omega | (unfold cnt; omega)) (by first | omega | (have : 1 ≤ dayIn σ pj yy ∧ dayIn σ pj yy ≤ 31 := by (unfold dayIn; split <;> omega)); first | omega | (unfold cnt; omega))) (va_cwS 2 hts (kg_S mw154 mw155 mw51 rfl mw156) rfl rfl rfl hdS_X0_countOf ⟨Nat.le_of_ble_eq_true rfl, Nat.le_of_ble_eq_true rfl⟩) ⟨fun a U g mk q => q, fun U hU hW => ⟨rfl, hU⟩⟩ rfl rfl hl.1 rfl (lv_room (Nat.le_of_ble_eq_true rfl)) dX1_numberOfFeastIn_7 ⟨Nat.le_of_ble_eq_true rfl, Nat.le_of_ble_eq_true rfl⟩) ?_
  refine lv_aload_n hx hb dX1_numberOfFeastIn_10 rfl (lv_at hl 0 rfl) ?_
  refine lv_iload_n hx hb dX1_numberOfFeastIn_11 rfl (lv_at hl 1 rfl) ?_
  refine lv_iload_n hx hb dX1_numberOfFeastIn_12 rfl (lv_at hl 2 rfl) ?_
  refine kc0 (fun _ q => q) (va_runV (As := [.int (iZ ((pj : Nat) : Int)), .int (iZ yy)]) (rest := [.long (lZ (12 * ((yy)) + (((σ 3 pj))) - 1))]) ⟨hx, hb, hml, hown, hts⟩ (c_X1_dayOfFeastIn l dC dI dA k q (σ) _ ⟨tb, tn, tm, htn, hfit, htm, hP⟩ (hOK) pj (yy) (by first | omega | (have : 1 ≤ dayIn σ pj yy ∧ dayIn σ pj yy ≤ 31 := by (unfold dayIn; split <;> omega)); first | omega | (unfold cnt; omega)) (by first | omega | (have : 1 ≤ dayIn σ pj yy ∧ dayIn σ pj yy ≤ 31 := by (unfold dayIn; split <;> omega)); first | omega | (unfold cnt; omega))) (cwV 2 hts (kg_V mw199 mw200 mw3 mw42 rfl mw201) rfl rfl rfl hdV_X1_dayOfFeastIn ⟨Nat.le_of_ble_eq_true rfl, Nat.le_of_ble_eq_true rfl⟩) ⟨fun a U g mk q => ⟨q.1, q.2.1, kM_call q.2.2⟩, va_recv hM.1 hP (ci := 4) (q0 := 0) rfl rfl, fun U hU hW => ⟨rfl, hU, kM_same hM hU hW⟩⟩ rfl rfl hl.1 rfl (lv_room (Nat.le_of_ble_eq_true rfl)) dX1_numberOfFeastIn_13 ⟨Nat.le_of_ble_eq_true rfl, Nat.le_of_ble_eq_true rfl⟩) ?_
  refine kc0 (fun _ q => q) (va_runS (As := [.long (lZ (12 * ((yy)) + (((σ 3 pj))) - 1)), .int (iZ (dayIn σ pj ((yy))))]) (rest := []) ⟨hx, hb, hml, hown, hts⟩ (c_X0_dayNumberOf l _ ((12 * ((yy)) + (((σ 3 pj))) - 1)) ((dayIn σ pj ((yy)))) (by first | omega | (have : 1 ≤ dayIn σ pj yy ∧ dayIn σ pj yy ≤ 31 := by (unfold dayIn; split <;> omega)); first | omega | (unfold cnt; omega)) (by first | omega | (have : 1 ≤ dayIn σ pj yy ∧ dayIn σ pj yy ≤ 31 := by (unfold dayIn; split <;> omega)); first | omega | (unfold cnt; omega))) (va_cwS 2 hts (kg_S mw165 mw166 mw51 rfl mw167) rfl rfl rfl hdS_X0_dayNumberOf ⟨Nat.le_of_ble_eq_true rfl, Nat.le_of_ble_eq_true rfl⟩) ⟨fun a U g mk q => q, fun U hU hW => ⟨rfl, hU⟩⟩ rfl rfl hl.1 rfl (lv_room (Nat.le_of_ble_eq_true rfl)) dX1_numberOfFeastIn_16 ⟨Nat.le_of_ble_eq_true rfl, Nat.le_of_ble_eq_true rfl⟩) ?_
  exact W.lret (v := lZ (dnum (yearOf (((12 * ((yy)) + (((σ 3 pj))) - 1)))) (monOf (((12 * ((yy)) + (((σ 3 pj))) - 1)))) (((dayIn σ pj ((yy))))))) hx hb hr (fun t ht hW => ⟨congrArg (fun z : Int => Outcome.returned (some (Value.long (lZ z)))) (show (dnum (yearOf (((12 * ((yy)) + (((σ 3 pj))) - 1)))) (monOf (((12 * ((yy)) + (((σ 3 pj))) - 1)))) (((dayIn σ pj ((yy)))))) = (dnum yy (σ 3 pj) (dayIn σ pj yy)) from by show dnum (yearOf (cnt yy (σ 3 pj))) (monOf (cnt yy (σ 3 pj))) _ = _; rw [yearOf_cnt (by omega), monOf_cnt (by omega)]), ht⟩) (fun q h => by cases h) dX1_numberOfFeastIn_19

theorem dnum_rng {y m d : Int} (hy : -1000000000 ≤ y ∧ y ≤ 1000000000) (hm : 1 ≤ m ∧ m ≤ 12) (hd : -400 ≤ d ∧ d ≤ 400) : -400000000000 ≤ dnum y m d ∧ dnum y m d ≤ 400000000000 := by
  have := ahead_rng (leap y) (m := m) (by omega)
  unfold dnum; omega
abbrev ww_X1_dayNumberAt : List Cond := .code yX1_dayNumberAt cX1_dayNumberAt 2 (some .long) :: gT
set_option maxHeartbeats 4000000 in
set_option maxRecDepth 100000 in
theorem c_X1_dayNumberAt (l : Launch) (dC : Nat → ClassId) (dI : Nat → Nat → Nat) (dA : Nat → ClassId) (k : Nat → Nat) (q : Nat → Nat) (σ : Nat → Nat → Int) (H0 : Heap) (hG : gX dC dI dA q σ H0) (hOK : kOK σ) (pj : Nat) (hpj : pj < 4) : Met l yX1_dayNumberAt ww_X1_dayNumberAt ({ frames := 3, cells := 0, slots := 0, locals := 75 }) (va_Pc [.ref (q 0), .int (iZ ((pj : Nat) : Int))] (fun U => U.heap = H0 ∧ kM dC dI dA k U)) (kQ0 (some (.long (lZ (dnum (σ 5 pj) (σ 6 pj) (σ 7 pj))))) H0) 0 0 kN := by
  refine Met.ofW (cc := cX1_dayNumberAt) (maxL := 2) (ret := (some .long)) (by decide) rfl ?_
  intro p e s m args below meth c s₁ B hml hv
  obtain ⟨rfl, hH, hM⟩ := hv
  subst hH
  obtain ⟨tb, tn, tm, htn, hfit, htm, hP⟩ := hG
  have o_pj := kOKr hOK hpj
  have hx := B.exec
  have hb := B.bytes
  have hr := B.returns
  have hts := atoms_spec (ws := ww_X1_dayNumberAt) B.pre
  have hown : s.vm.findClass RX1 = some m.cls := findClass_of_methodNamed B.named
  have hlocks := B.notSynchronized
  have hl := lv_entry ([.ref (q 0), .int (iZ ((pj : Nat) : Int))]) (n := 2) (Nat.le_of_ble_eq_true rfl)
  rw [lg_entry_eq]
  generalize (lg_sl ([.ref (q 0), .int (iZ ((pj : Nat) : Int))]) ++ List.replicate (2 - (lg_sl ([.ref (q 0), .int (iZ ((pj : Nat) : Int))])).length) Slot.unset).toArray = ls at hl ⊢
  have hl : lv_has ls 2 [(0, .ref (q 0)), (1, .int (iZ ((pj : Nat) : Int)))] := hl
  refine lv_aload_n hx hb dX1_dayNumberAt_0 rfl (lv_at hl 0 rfl) ?_
  refine va_get (D := (dC, dI)) (ci := 4) (v := .ref (q 5)) (C := RX1) (T := TX1) (N := 8) hx hb hts (fun w h => List.mem_cons_of_mem _ (gF_0_in h)) hown hM.1 hP 0 rfl rfl 4 (by decide) (hts _ (List.mem_cons_of_mem _ mw101)) (fun _ h9 => h9) rfl dX1_dayNumberAt_1 ?_
  refine lv_iload_n hx hb dX1_dayNumberAt_4 rfl (lv_at hl 1 rfl) ?_
  refine kz_lald (v := cnt (σ 5 pj) (σ 6 pj)) hx hb hM.1 hP 5 1 rfl rfl (by omega) (by decide) rfl dX1_dayNumberAt_5 ?_
  refine lv_aload_n hx hb dX1_dayNumberAt_6 rfl (lv_at hl 0 rfl) ?_
  refine va_get (D := (dC, dI)) (ci := 4) (v := .ref (q 6)) (C := RX1) (T := TX1) (N := 8) hx hb hts (fun w h => List.mem_cons_of_mem _ (gF_0_in h)) hown hM.1 hP 0 rfl rfl 5 (by decide) (hts _ (List.mem_cons_of_mem _ mw102)) (fun _ h9 => h9) rfl dX1_dayNumberAt_7 ?_
  refine lv_iload_n hx hb dX1_dayNumberAt_10 rfl (lv_at hl 1 rfl) ?_
  refine kz_iald (v := σ 7 pj) hx hb hM.1 hP 6 0 rfl rfl (by omega) (by decide) rfl dX1_dayNumberAt_11 ?_
  refine kc0 (fun _ q => q) (va_runS (As := [.long (lZ (cnt (σ 5 pj) (σ 6 pj))), .int (iZ (σ 7 pj))]) (rest := []) ⟨hx, hb, hml, hown, hts⟩ (c_X0_dayNumberOf l _ ((cnt (σ 5 pj) (σ 6 pj))) ((σ 7 pj)) (by first | omega | (have := mlen_rng (leap (σ 5 pj)) (σ 6 pj); omega)) (by first | omega | (have := mlen_rng (leap (σ 5 pj)) (σ 6 pj); omega))) (va_cwS 2 hts (kg_S mw165 mw166 mw51 rfl mw167) rfl rfl rfl hdS_X0_dayNumberOf ⟨Nat.le_of_ble_eq_true rfl, Nat.le_of_ble_eq_true rfl⟩) ⟨fun a U g mk q => q, fun U hU hW => ⟨rfl, hU⟩⟩ rfl rfl hl.1 rfl (lv_room (Nat.le_of_ble_eq_true rfl)) dX1_dayNumberAt_12 ⟨Nat.le_of_ble_eq_true rfl, Nat.le_of_ble_eq_true rfl⟩) ?_
  exact W.lret (v := lZ (dnum (yearOf (((cnt (σ 5 pj) (σ 6 pj))))) (monOf (((cnt (σ 5 pj) (σ 6 pj))))) (((σ 7 pj))))) hx hb hr (fun t ht hW => ⟨congrArg (fun z : Int => Outcome.returned (some (Value.long (lZ z)))) (show (dnum (yearOf (((cnt (σ 5 pj) (σ 6 pj))))) (monOf (((cnt (σ 5 pj) (σ 6 pj))))) (((σ 7 pj)))) = (dnum (σ 5 pj) (σ 6 pj) (σ 7 pj)) from by rw [yearOf_cnt (by omega), monOf_cnt (by omega)]), ht⟩) (fun q h => by cases h) dX1_dayNumberAt_15

abbrev ww_X1_weekdayAt : List Cond := .code yX1_weekdayAt cX1_weekdayAt 2 (some .int) :: gT
set_option maxHeartbeats 4000000 in
set_option maxRecDepth 100000 in
theorem c_X1_weekdayAt (l : Launch) (dC : Nat → ClassId) (dI : Nat → Nat → Nat) (dA : Nat → ClassId) (k : Nat → Nat) (q : Nat → Nat) (σ : Nat → Nat → Int) (H0 : Heap) (hG : gX dC dI dA q σ H0) (hOK : kOK σ) (pj : Nat) (hpj : pj < 4) : Met l yX1_weekdayAt ww_X1_weekdayAt ({ frames := 3, cells := 0, slots := 0, locals := 75 }) (va_Pc [.ref (q 0), .int (iZ ((pj : Nat) : Int))] (fun U => U.heap = H0 ∧ kM dC dI dA k U)) (kQ0 (some (.int (iZ (1 + (dnum (σ 5 pj) (σ 6 pj) (σ 7 pj) + 3) % 7)))) H0) 0 0 kN := by
  refine Met.ofW (cc := cX1_weekdayAt) (maxL := 2) (ret := (some .int)) (by decide) rfl ?_
  intro p e s m args below meth c s₁ B hml hv
  obtain ⟨rfl, hH, hM⟩ := hv
  subst hH
  obtain ⟨tb, tn, tm, htn, hfit, htm, hP⟩ := hG
  have o_pj := kOKr hOK hpj
  have hx := B.exec
  have hb := B.bytes
  have hr := B.returns
  have hts := atoms_spec (ws := ww_X1_weekdayAt) B.pre
  have hown : s.vm.findClass RX1 = some m.cls := findClass_of_methodNamed B.named
  have hlocks := B.notSynchronized
  have hl := lv_entry ([.ref (q 0), .int (iZ ((pj : Nat) : Int))]) (n := 2) (Nat.le_of_ble_eq_true rfl)
  rw [lg_entry_eq]
  generalize (lg_sl ([.ref (q 0), .int (iZ ((pj : Nat) : Int))]) ++ List.replicate (2 - (lg_sl ([.ref (q 0), .int (iZ ((pj : Nat) : Int))])).length) Slot.unset).toArray = ls at hl ⊢
  have hl : lv_has ls 2 [(0, .ref (q 0)), (1, .int (iZ ((pj : Nat) : Int)))] := hl
  refine lv_aload_n hx hb dX1_weekdayAt_0 rfl (lv_at hl 0 rfl) ?_
  refine va_get (D := (dC, dI)) (ci := 4) (v := .ref (q 5)) (C := RX1) (T := TX1) (N := 8) hx hb hts (fun w h => List.mem_cons_of_mem _ (gF_0_in h)) hown hM.1 hP 0 rfl rfl 4 (by decide) (hts _ (List.mem_cons_of_mem _ mw101)) (fun _ h9 => h9) rfl dX1_weekdayAt_1 ?_
  refine lv_iload_n hx hb dX1_weekdayAt_4 rfl (lv_at hl 1 rfl) ?_
  refine kz_lald (v := cnt (σ 5 pj) (σ 6 pj)) hx hb hM.1 hP 5 1 rfl rfl (by omega) (by decide) rfl dX1_weekdayAt_5 ?_
  refine lv_aload_n hx hb dX1_weekdayAt_6 rfl (lv_at hl 0 rfl) ?_
  refine va_get (D := (dC, dI)) (ci := 4) (v := .ref (q 6)) (C := RX1) (T := TX1) (N := 8) hx hb hts (fun w h => List.mem_cons_of_mem _ (gF_0_in h)) hown hM.1 hP 0 rfl rfl 5 (by decide) (hts _ (List.mem_cons_of_mem _ mw102)) (fun _ h9 => h9) rfl dX1_weekdayAt_7 ?_
  refine lv_iload_n hx hb dX1_weekdayAt_10 rfl (lv_at hl 1 rfl) ?_
  refine kz_iald (v := σ 7 pj) hx hb hM.1 hP 6 0 rfl rfl (by omega) (by decide) rfl dX1_weekdayAt_11 ?_
  refine kc0 (fun _ q => q) (va_runS (As := [.long (lZ (cnt (σ 5 pj) (σ 6 pj))), .int (iZ (σ 7 pj))]) (rest := []) ⟨hx, hb, hml, hown, hts⟩ (c_X0_dayNumberOf l _ ((cnt (σ 5 pj) (σ 6 pj))) ((σ 7 pj)) (by first | omega | (have := dnum_rng (y := σ 5 pj) (m := σ 6 pj) (d := σ 7 pj) (by omega) (by omega) (by omega); (try rw [yearOf_cnt (by omega), monOf_cnt (by omega)]); omega)) (by first | omega | (have := dnum_rng (y := σ 5 pj) (m := σ 6 pj) (d := σ 7 pj) (by omega) (by omega) (by omega); (try rw [yearOf_cnt (by omega), monOf_cnt (by omega)]); omega))) (va_cwS 2 hts (kg_S mw165 mw166 mw51 rfl mw167) rfl rfl rfl hdS_X0_dayNumberOf ⟨Nat.le_of_ble_eq_true rfl, Nat.le_of_ble_eq_true rfl⟩) ⟨fun a U g mk q => q, fun U hU hW => ⟨rfl, hU⟩⟩ rfl rfl hl.1 rfl (lv_room (Nat.le_of_ble_eq_true rfl)) dX1_weekdayAt_12 ⟨Nat.le_of_ble_eq_true rfl, Nat.le_of_ble_eq_true rfl⟩) ?_
  refine kc0 (fun _ q => q) (va_runS (As := [.long (lZ (dnum (yearOf (((cnt (σ 5 pj) (σ 6 pj))))) (monOf (((cnt (σ 5 pj) (σ 6 pj))))) (((σ 7 pj)))))]) (rest := []) ⟨hx, hb, hml, hown, hts⟩ (c_X0_weekdayOf l _ ((dnum (yearOf (((cnt (σ 5 pj) (σ 6 pj))))) (monOf (((cnt (σ 5 pj) (σ 6 pj))))) (((σ 7 pj))))) (by first | omega | (have := dnum_rng (y := σ 5 pj) (m := σ 6 pj) (d := σ 7 pj) (by omega) (by omega) (by omega); (try rw [yearOf_cnt (by omega), monOf_cnt (by omega)]); omega))) (va_cwS 1 hts (kg_S mw555 mw556 mw51 rfl mw557) rfl rfl rfl hdS_X0_weekdayOf ⟨Nat.le_of_ble_eq_true rfl, Nat.le_of_ble_eq_true rfl⟩) ⟨fun a U g mk q => q, fun U hU hW => ⟨rfl, hU⟩⟩ rfl rfl hl.1 rfl (lv_room (Nat.le_of_ble_eq_true rfl)) dX1_weekdayAt_15 ⟨Nat.le_of_ble_eq_true rfl, Nat.le_of_ble_eq_true rfl⟩) ?_
  exact W.iret (v := iZ (1 + ((((dnum (yearOf (((cnt (σ 5 pj) (σ 6 pj))))) (monOf (((cnt (σ 5 pj) (σ 6 pj))))) (((σ 7 pj)))))) + 3) % 7)) hx hb hr (fun t ht hW => ⟨congrArg (fun z : Int => Outcome.returned (some (Value.int (iZ z)))) (show (1 + ((((dnum (yearOf (((cnt (σ 5 pj) (σ 6 pj))))) (monOf (((cnt (σ 5 pj) (σ 6 pj))))) (((σ 7 pj)))))) + 3) % 7) = (1 + (dnum (σ 5 pj) (σ 6 pj) (σ 7 pj) + 3) % 7) from by rw [yearOf_cnt (by omega), monOf_cnt (by omega)]), ht⟩) (fun q h => by cases h) dX1_weekdayAt_18

abbrev ww_X1_isLastOfMonth : List Cond := .code yX1_isLastOfMonth cX1_isLastOfMonth 2 (some .boolean) :: gT
set_option maxHeartbeats 4000000 in
set_option maxRecDepth 100000 in
theorem c_X1_isLastOfMonth (l : Launch) (dC : Nat → ClassId) (dI : Nat → Nat → Nat) (dA : Nat → ClassId) (k : Nat → Nat) (q : Nat → Nat) (σ : Nat → Nat → Int) (H0 : Heap) (hG : gX dC dI dA q σ H0) (hOK : kOK σ) (pj : Nat) (hpj : pj < 4) : Met l yX1_isLastOfMonth ww_X1_isLastOfMonth ({ frames := 3, cells := 0, slots := 0, locals := 67 }) (va_Pc [.ref (q 0), .int (iZ ((pj : Nat) : Int))] (fun U => U.heap = H0 ∧ kM dC dI dA k U)) (kQ0 (some (.int (iZ (bZ (decide (σ 7 pj = mlen (leap (σ 5 pj)) (σ 6 pj))))))) H0) 0 0 kN := by
  refine Met.ofW (cc := cX1_isLastOfMonth) (maxL := 2) (ret := (some .boolean)) (by decide) rfl ?_
  intro p e s m args below meth c s₁ B hml hv
  obtain ⟨rfl, hH, hM⟩ := hv
  subst hH
  obtain ⟨tb, tn, tm, htn, hfit, htm, hP⟩ := hG
  have o_pj := kOKr hOK hpj
  have hx := B.exec
  have hb := B.bytes
  have hr := B.returns
  have hts := atoms_spec (ws := ww_X1_isLastOfMonth) B.pre
  have hown : s.vm.findClass RX1 = some m.cls := findClass_of_methodNamed B.named
  have hlocks := B.notSynchronized
  have hl := lv_entry ([.ref (q 0), .int (iZ ((pj : Nat) : Int))]) (n := 2) (Nat.le_of_ble_eq_true rfl)
  rw [lg_entry_eq]
  generalize (lg_sl ([.ref (q 0), .int (iZ ((pj : Nat) : Int))]) ++ List.replicate (2 - (lg_sl ([.ref (q 0), .int (iZ ((pj : Nat) : Int))])).length) Slot.unset).toArray = ls at hl ⊢
  have hl : lv_has ls 2 [(0, .ref (q 0)), (1, .int (iZ ((pj : Nat) : Int)))] := hl
  refine lv_aload_n hx hb dX1_isLastOfMonth_0 rfl (lv_at hl 0 rfl) ?_
  refine va_get (D := (dC, dI)) (ci := 4) (v := .ref (q 6)) (C := RX1) (T := TX1) (N := 8) hx hb hts (fun w h => List.mem_cons_of_mem _ (gF_0_in h)) hown hM.1 hP 0 rfl rfl 5 (by decide) (hts _ (List.mem_cons_of_mem _ mw102)) (fun _ h9 => h9) rfl dX1_isLastOfMonth_1 ?_
  refine lv_iload_n hx hb dX1_isLastOfMonth_4 rfl (lv_at hl 1 rfl) ?_
  refine kz_iald (v := σ 7 pj) hx hb hM.1 hP 6 0 rfl rfl (by omega) (by decide) rfl dX1_isLastOfMonth_5 ?_
  refine lv_aload_n hx hb dX1_isLastOfMonth_6 rfl (lv_at hl 0 rfl) ?_
  refine va_get (D := (dC, dI)) (ci := 4) (v := .ref (q 5)) (C := RX1) (T := TX1) (N := 8) hx hb hts (fun w h => List.mem_cons_of_mem _ (gF_0_in h)) hown hM.1 hP 0 rfl rfl 4 (by decide) (hts _ (List.mem_cons_of_mem _ mw101)) (fun _ h9 => h9) rfl dX1_isLastOfMonth_7 ?_
  refine lv_iload_n hx hb dX1_isLastOfMonth_10 rfl (lv_at hl 1 rfl) ?_
  refine kz_lald (v := cnt (σ 5 pj) (σ 6 pj)) hx hb hM.1 hP 5 1 rfl rfl (by omega) (by decide) rfl dX1_isLastOfMonth_11 ?_
  refine kc0 (fun _ q => q) (va_runS (As := [.long (lZ (cnt (σ 5 pj) (σ 6 pj)))]) (rest := [.int (iZ (σ 7 pj))]) ⟨hx, hb, hml, hown, hts⟩ (c_X0_lengthOf l _ ((cnt (σ 5 pj) (σ 6 pj))) (by omega)) (va_cwS 1 hts (kg_S mw132 mw133 mw51 rfl mw134) rfl rfl rfl hdS_X0_lengthOf ⟨Nat.le_of_ble_eq_true rfl, Nat.le_of_ble_eq_true rfl⟩) ⟨fun a U g mk q => q, fun U hU hW => ⟨rfl, hU⟩⟩ rfl rfl hl.1 rfl (lv_room (Nat.le_of_ble_eq_true rfl)) dX1_isLastOfMonth_12 ⟨Nat.le_of_ble_eq_true rfl, Nat.le_of_ble_eq_true rfl⟩) ?_
  refine kz_icmp_ne (tgt := 22) hx hb (by first | omega | (unfold lenOf; have := mlen_rng (leap (yearOf (cnt (σ 5 pj) (σ 6 pj)))) (monOf (cnt (σ 5 pj) (σ 6 pj))); omega)) (by first | omega | (unfold lenOf; have := mlen_rng (leap (yearOf (cnt (σ 5 pj) (σ 6 pj)))) (monOf (cnt (σ 5 pj) (σ 6 pj))); omega)) dX1_isLastOfMonth_15 (by decide) (fun c_1 => ?_) (fun c_1 => ?_)
  · refine lv_iconst (v := iZ 0) hx hb dX1_isLastOfMonth_22 rfl ?_
    exact W.zret (v := iZ 0) (ty := .boolean) hx hb hr rfl (fun t ht hW => ⟨congrArg (fun z : Int => Outcome.returned (some (Value.int (iZ z)))) (show 0 = (bZ (decide (σ 7 pj = mlen (leap (σ 5 pj)) (σ 6 pj)))) from by have := lenOf_cnt (y := σ 5 pj) (m := σ 6 pj) (by omega); exact bZ_d0 (by omega)), ht⟩) (fun q h => by cases h) dX1_isLastOfMonth_23
  · refine lv_iconst (v := iZ 1) hx hb dX1_isLastOfMonth_18 rfl ?_
    refine lv_goto (tgt := 23) hx hb dX1_isLastOfMonth_19 (by decide) ?_
    exact W.zret (v := iZ 1) (ty := .boolean) hx hb hr rfl (fun t ht hW => ⟨congrArg (fun z : Int => Outcome.returned (some (Value.int (iZ z)))) (show 1 = (bZ (decide (σ 7 pj = mlen (leap (σ 5 pj)) (σ 6 pj)))) from by have := lenOf_cnt (y := σ 5 pj) (m := σ 6 pj) (by omega); exact bZ_d1 (by omega)), ht⟩) (fun q h => by cases h) dX1_isLastOfMonth_23

def counted (σ : Nat → Nat → Int) (w : Int) (j : Nat) : Bool := if w = 0 then leap (σ 0 j) else if w = 1 then leap (σ 2 j) else if w = 2 then decide (σ 3 j ≠ 2 ∨ σ 4 j ≤ 28) else decide (σ 7 j = mlen (leap (σ 5 j)) (σ 6 j))
abbrev ww_X1_isCounted : List Cond := .code yX1_isCounted cX1_isCounted 3 (some .boolean) :: gT
set_option maxHeartbeats 4000000 in
set_option maxRecDepth 100000 in
theorem c_X1_isCounted (l : Launch) (dC : Nat → ClassId) (dI : Nat → Nat → Nat) (dA : Nat → ClassId) (k : Nat → Nat) (q : Nat → Nat) (σ : Nat → Nat → Int) (H0 : Heap) (hG : gX dC dI dA q σ H0) (hOK : kOK σ) (pj : Nat) (ww : Int) (hpj : pj < 4) (h0 : 0 ≤ ww ∧ ww ≤ 3) : Met l yX1_isCounted ww_X1_isCounted ({ frames := 4, cells := 0, slots := 0, locals := 88 }) (va_Pc [.ref (q 0), .int (iZ ((pj : Nat) : Int)), .int (iZ ww)] (fun U => U.heap = H0 ∧ kM dC dI dA k U)) (kQ0 (some (.int (iZ (bZ (counted σ ww pj))))) H0) 0 0 kN := by
  refine Met.ofW (cc := cX1_isCounted) (maxL := 3) (ret := (some .boolean)) (by decide) rfl ?_
  intro p e s m args below meth c s₁ B hml hv
  obtain ⟨rfl, hH, hM⟩ := hv
  subst hH
  obtain ⟨tb, tn, tm, htn, hfit, htm, hP⟩ := hG
  have o_pj := kOKr hOK hpj
  have hx := B.exec
  have hb := B.bytes
  have hr := B.returns
  have hts := atoms_spec (ws := ww_X1_isCounted) B.pre
  have hown : s.vm.findClass RX1 = some m.cls := findClass_of_methodNamed B.named
  have hlocks := B.notSynchronized
  have hl := lv_entry ([.ref (q 0), .int (iZ ((pj : Nat) : Int)), .int (iZ ww)]) (n := 3) (Nat.le_of_ble_eq_true rfl)
  rw [lg_entry_eq]
  generalize (lg_sl ([.ref (q 0), .int (iZ ((pj : Nat) : Int)), .int (iZ ww)]) ++ List.replicate (3 - (lg_sl ([.ref (q 0), .int (iZ ((pj : Nat) : Int)), .int (iZ ww)])).length) Slot.unset).toArray = ls at hl ⊢
  have hl : lv_has ls 3 [(0, .ref (q 0)), (1, .int (iZ ((pj : Nat) : Int))), (2, .int (iZ ww))] := hl
  refine lv_iload_n hx hb dX1_isCounted_0 rfl (lv_at hl 2 rfl) ?_
  by_cases c_1 : ww = 0
  · refine lv_tableIn (tgt := 28) (off := 27) hx hb dX1_isCounted_1 (by rw [iZ_toInt (z := ww) (by first | omega | (have := yearOf_cnt (y := σ 0 pj) (m := σ 1 pj) (by omega); omega))]; omega) (by rw [iZ_toInt (z := ww) (by first | omega | (have := yearOf_cnt (y := σ 0 pj) (m := σ 1 pj) (by omega); omega))]; omega) (by rw [iZ_toInt (z := ww) (by first | omega | (have := yearOf_cnt (y := σ 0 pj) (m := σ 1 pj) (by omega); omega)), show ww = 0 from by omega]; rfl) (by decide) ?_
    refine lv_aload_n hx hb dX1_isCounted_28 rfl (lv_at hl 0 rfl) ?_
    refine va_get (D := (dC, dI)) (ci := 4) (v := .ref (q 1)) (C := RX1) (T := TX1) (N := 8) hx hb hts (fun w h => List.mem_cons_of_mem _ (gF_0_in h)) hown hM.1 hP 0 rfl rfl 0 (by decide) (hts _ (List.mem_cons_of_mem _ mw97)) (fun _ h9 => h9) rfl dX1_isCounted_29 ?_
    refine lv_iload_n hx hb dX1_isCounted_32 rfl (lv_at hl 1 rfl) ?_
    refine kz_lald (v := cnt (σ 0 pj) (σ 1 pj)) hx hb hM.1 hP 1 1 rfl rfl (by omega) (by decide) rfl dX1_isCounted_33 ?_
    refine kc0 (fun _ q => q) (va_runS (As := [.long (lZ (cnt (σ 0 pj) (σ 1 pj)))]) (rest := []) ⟨hx, hb, hml, hown, hts⟩ (c_X0_yearOfCount l _ ((cnt (σ 0 pj) (σ 1 pj))) (by first | omega | (have := yearOf_cnt (y := σ 0 pj) (m := σ 1 pj) (by omega); omega))) (va_cwS 1 hts (kg_S mw152 mw143 mw51 rfl mw144) rfl rfl rfl hdS_X0_yearOfCount ⟨Nat.le_of_ble_eq_true rfl, Nat.le_of_ble_eq_true rfl⟩) ⟨fun a U g mk q => q, fun U hU hW => ⟨rfl, hU⟩⟩ rfl rfl hl.1 rfl (lv_room (Nat.le_of_ble_eq_true rfl)) dX1_isCounted_34 ⟨Nat.le_of_ble_eq_true rfl, Nat.le_of_ble_eq_true rfl⟩) ?_
    refine kz_i2l hx hb (by first | omega | (have := yearOf_cnt (y := σ 0 pj) (m := σ 1 pj) (by omega); omega)) dX1_isCounted_37 ?_
    refine kc0 (fun _ q => q) (va_runS (As := [.long (lZ ((yearOf (((cnt (σ 0 pj) (σ 1 pj)))))))]) (rest := []) ⟨hx, hb, hml, hown, hts⟩ (c_X0_isLeapNumber l _ (((yearOf (((cnt (σ 0 pj) (σ 1 pj))))))) (by first | omega | (have := yearOf_cnt (y := σ 0 pj) (m := σ 1 pj) (by omega); omega))) (va_cwS 1 hts (kg_S mw109 mw110 mw51 rfl mw111) rfl rfl rfl hdS_X0_isLeapNumber ⟨Nat.le_of_ble_eq_true rfl, Nat.le_of_ble_eq_true rfl⟩) ⟨fun a U g mk q => q, fun U hU hW => ⟨rfl, hU⟩⟩ rfl rfl hl.1 rfl (lv_room (Nat.le_of_ble_eq_true rfl)) dX1_isCounted_38 ⟨Nat.le_of_ble_eq_true rfl, Nat.le_of_ble_eq_true rfl⟩) ?_
    exact W.zret (v := iZ (bZ (leap ((((yearOf (((cnt (σ 0 pj) (σ 1 pj))))))))))) (ty := .boolean) hx hb hr (by cases (leap ((((yearOf (((cnt (σ 0 pj) (σ 1 pj))))))))) <;> rfl) (fun t ht hW => ⟨congrArg (fun z : Int => Outcome.returned (some (Value.int (iZ z)))) (show (bZ (leap ((((yearOf (((cnt (σ 0 pj) (σ 1 pj)))))))))) = (bZ (counted σ ww pj)) from by unfold counted; simp [*, yearOf_cnt o_pj.1.2.2]), ht⟩) (fun q h => by cases h) dX1_isCounted_41
  by_cases c_2 : ww = 1
  · refine lv_tableIn (tgt := 42) (off := 41) hx hb dX1_isCounted_1 (by rw [iZ_toInt (z := ww) (by first | omega | (have := yearOf_cnt (y := σ 0 pj) (m := σ 1 pj) (by omega); omega))]; omega) (by rw [iZ_toInt (z := ww) (by first | omega | (have := yearOf_cnt (y := σ 0 pj) (m := σ 1 pj) (by omega); omega))]; omega) (by rw [iZ_toInt (z := ww) (by first | omega | (have := yearOf_cnt (y := σ 0 pj) (m := σ 1 pj) (by omega); omega)), show ww = 1 from by omega]; rfl) (by decide) ?_
    refine lv_aload_n hx hb dX1_isCounted_42 rfl (lv_at hl 0 rfl) ?_
    refine va_get (D := (dC, dI)) (ci := 4) (v := .ref (q 2)) (C := RX1) (T := TX1) (N := 8) hx hb hts (fun w h => List.mem_cons_of_mem _ (gF_0_in h)) hown hM.1 hP 0 rfl rfl 1 (by decide) (hts _ (List.mem_cons_of_mem _ mw98)) (fun _ h9 => h9) rfl dX1_isCounted_43 ?_
    refine lv_iload_n hx hb dX1_isCounted_46 rfl (lv_at hl 1 rfl) ?_
    refine kz_iald (v := σ 2 pj) hx hb hM.1 hP 2 0 rfl rfl (by omega) (by decide) rfl dX1_isCounted_47 ?_
    refine kz_i2l hx hb (by first | omega | (have := yearOf_cnt (y := σ 0 pj) (m := σ 1 pj) (by omega); omega)) dX1_isCounted_48 ?_
    refine kc0 (fun _ q => q) (va_runS (As := [.long (lZ ((σ 2 pj)))]) (rest := []) ⟨hx, hb, hml, hown, hts⟩ (c_X0_isLeapNumber l _ (((σ 2 pj))) (by first | omega | (have := yearOf_cnt (y := σ 0 pj) (m := σ 1 pj) (by omega); omega))) (va_cwS 1 hts (kg_S mw109 mw110 mw51 rfl mw111) rfl rfl rfl hdS_X0_isLeapNumber ⟨Nat.le_of_ble_eq_true rfl, Nat.le_of_ble_eq_true rfl⟩) ⟨fun a U g mk q => q, fun U hU hW => ⟨rfl, hU⟩⟩ rfl rfl hl.1 rfl (lv_room (Nat.le_of_ble_eq_true rfl)) dX1_isCounted_49 ⟨Nat.le_of_ble_eq_true rfl, Nat.le_of_ble_eq_true rfl⟩) ?_
    exact W.zret (v := iZ (bZ (leap ((((σ 2 pj))))))) (ty := .boolean) hx hb hr (by cases (leap ((((σ 2 pj))))) <;> rfl) (fun t ht hW => ⟨congrArg (fun z : Int => Outcome.returned (some (Value.int (iZ z)))) (show (bZ (leap ((((σ 2 pj)))))) = (bZ (counted σ ww pj)) from by unfold counted; simp [*, yearOf_cnt o_pj.1.2.2]), ht⟩) (fun q h => by cases h) dX1_isCounted_52
  by_cases c_3 : ww = 2
  · refine lv_tableIn (tgt := 53) (off := 52) hx hb dX1_isCounted_1 (by rw [iZ_toInt (z := ww) (by first | omega | (have := yearOf_cnt (y := σ 0 pj) (m := σ 1 pj) (by omega); omega))]; omega) (by rw [iZ_toInt (z := ww) (by first | omega | (have := yearOf_cnt (y := σ 0 pj) (m := σ 1 pj) (by omega); omega))]; omega) (by rw [iZ_toInt (z := ww) (by first | omega | (have := yearOf_cnt (y := σ 0 pj) (m := σ 1 pj) (by omega); omega)), show ww = 2 from by omega]; rfl) (by decide) ?_
    refine lv_aload_n hx hb dX1_isCounted_53 rfl (lv_at hl 0 rfl) ?_
    refine va_get (D := (dC, dI)) (ci := 4) (v := .ref (q 3)) (C := RX1) (T := TX1) (N := 8) hx hb hts (fun w h => List.mem_cons_of_mem _ (gF_0_in h)) hown hM.1 hP 0 rfl rfl 2 (by decide) (hts _ (List.mem_cons_of_mem _ mw99)) (fun _ h9 => h9) rfl dX1_isCounted_54 ?_
    refine lv_iload_n hx hb dX1_isCounted_57 rfl (lv_at hl 1 rfl) ?_
    refine kz_iald (v := σ 3 pj) hx hb hM.1 hP 3 0 rfl rfl (by omega) (by decide) rfl dX1_isCounted_58 ?_
    refine lv_aload_n hx hb dX1_isCounted_59 rfl (lv_at hl 0 rfl) ?_
    refine va_get (D := (dC, dI)) (ci := 4) (v := .ref (q 4)) (C := RX1) (T := TX1) (N := 8) hx hb hts (fun w h => List.mem_cons_of_mem _ (gF_0_in h)) hown hM.1 hP 0 rfl rfl 3 (by decide) (hts _ (List.mem_cons_of_mem _ mw100)) (fun _ h9 => h9) rfl dX1_isCounted_60 ?_
    refine lv_iload_n hx hb dX1_isCounted_63 rfl (lv_at hl 1 rfl) ?_
    refine kz_iald (v := σ 4 pj) hx hb hM.1 hP 4 0 rfl rfl (by omega) (by decide) rfl dX1_isCounted_64 ?_
    refine kc0 (fun _ q => q) (va_runS (As := [.int (iZ (σ 3 pj)), .int (iZ (σ 4 pj))]) (rest := []) ⟨hx, hb, hml, hown, hts⟩ (c_X0_isInEachYear l _ ((σ 3 pj)) ((σ 4 pj)) (by first | omega | (have := yearOf_cnt (y := σ 0 pj) (m := σ 1 pj) (by omega); omega)) (by first | omega | (have := yearOf_cnt (y := σ 0 pj) (m := σ 1 pj) (by omega); omega))) (va_cwS 2 hts (kg_S mw205 mw206 mw51 rfl mw207) rfl rfl rfl hdS_X0_isInEachYear ⟨Nat.le_of_ble_eq_true rfl, Nat.le_of_ble_eq_true rfl⟩) ⟨fun a U g mk q => q, fun U hU hW => ⟨rfl, hU⟩⟩ rfl rfl hl.1 rfl (lv_room (Nat.le_of_ble_eq_true rfl)) dX1_isCounted_65 ⟨Nat.le_of_ble_eq_true rfl, Nat.le_of_ble_eq_true rfl⟩) ?_
    exact W.zret (v := iZ (bZ (decide ((((σ 3 pj))) ≠ 2 ∨ (((σ 4 pj))) ≤ 28)))) (ty := .boolean) hx hb hr (by cases (decide ((((σ 3 pj))) ≠ 2 ∨ (((σ 4 pj))) ≤ 28)) <;> rfl) (fun t ht hW => ⟨congrArg (fun z : Int => Outcome.returned (some (Value.int (iZ z)))) (show (bZ (decide ((((σ 3 pj))) ≠ 2 ∨ (((σ 4 pj))) ≤ 28))) = (bZ (counted σ ww pj)) from by unfold counted; simp [*, yearOf_cnt o_pj.1.2.2]), ht⟩) (fun q h => by cases h) dX1_isCounted_68
  refine lv_tableOut (tgt := 69) hx hb dX1_isCounted_1 (by rw [iZ_toInt (z := ww) (by first | omega | (have := yearOf_cnt (y := σ 0 pj) (m := σ 1 pj) (by omega); omega))]; omega) (by decide) ?_
  refine lv_aload_n hx hb dX1_isCounted_69 rfl (lv_at hl 0 rfl) ?_
  refine lv_iload_n hx hb dX1_isCounted_70 rfl (lv_at hl 1 rfl) ?_
  refine kc0 (fun _ q => q) (va_runV (As := [.int (iZ ((pj : Nat) : Int))]) (rest := []) ⟨hx, hb, hml, hown, hts⟩ (c_X1_isLastOfMonth l dC dI dA k q (σ) _ ⟨tb, tn, tm, htn, hfit, htm, hP⟩ (hOK) pj (by first | omega | (have := yearOf_cnt (y := σ 0 pj) (m := σ 1 pj) (by omega); omega))) (cwV 1 hts (kg_V mw560 mw561 mw13 mw42 rfl mw562) rfl rfl rfl hdV_X1_isLastOfMonth ⟨Nat.le_of_ble_eq_true rfl, Nat.le_of_ble_eq_true rfl⟩) ⟨fun a U g mk q => ⟨q.1, q.2.1, kM_call q.2.2⟩, va_recv hM.1 hP (ci := 4) (q0 := 0) rfl rfl, fun U hU hW => ⟨rfl, hU, kM_same hM hU hW⟩⟩ rfl rfl hl.1 rfl (lv_room (Nat.le_of_ble_eq_true rfl)) dX1_isCounted_71 ⟨Nat.le_of_ble_eq_true rfl, Nat.le_of_ble_eq_true rfl⟩) ?_
  exact W.zret (v := iZ (bZ (decide (σ 7 pj = mlen (leap (σ 5 pj)) (σ 6 pj))))) (ty := .boolean) hx hb hr (by cases (decide (σ 7 pj = mlen (leap (σ 5 pj)) (σ 6 pj))) <;> rfl) (fun t ht hW => ⟨congrArg (fun z : Int => Outcome.returned (some (Value.int (iZ z)))) (show (bZ (decide (σ 7 pj = mlen (leap (σ 5 pj)) (σ 6 pj)))) = (bZ (counted σ ww pj)) from by unfold counted; simp [*, yearOf_cnt o_pj.1.2.2]), ht⟩) (fun q h => by cases h) dX1_isCounted_74

abbrev ww_X1_unitsToLeaf : List Cond := .code yX1_unitsToLeaf cX1_unitsToLeaf 4 (some .long) :: gT
set_option maxHeartbeats 4000000 in
set_option maxRecDepth 100000 in
theorem c_X1_unitsToLeaf (l : Launch) (dC : Nat → ClassId) (dI : Nat → Nat → Nat) (dA : Nat → ClassId) (k : Nat → Nat) (q : Nat → Nat) (σ : Nat → Nat → Int) (H0 : Heap) (hG : gX dC dI dA q σ H0) (hOK : kOK σ) (pj : Nat) (pi : Nat) (uu : Int) (hpj : pj < 4) (hpi : pi < 4) (h0 : -2147483648 ≤ uu ∧ uu < 2147483648) : Met l yX1_unitsToLeaf ww_X1_unitsToLeaf ({ frames := 2, cells := 0, slots := 0, locals := 44 }) (va_Pc [.ref (q 0), .int (iZ ((pj : Nat) : Int)), .int (iZ ((pi : Nat) : Int)), .int (iZ uu)] (fun U => U.heap = H0 ∧ kM dC dI dA k U)) (kQ0 (some (.long (lZ (tq (cnt (σ 0 pi) (σ 1 pi) - cnt (σ 0 pj) (σ 1 pj)) (usize uu))))) H0) 0 0 kN := by
  refine Met.ofW (cc := cX1_unitsToLeaf) (maxL := 4) (ret := (some .long)) (by decide) rfl ?_
  intro p e s m args below meth c s₁ B hml hv
  obtain ⟨rfl, hH, hM⟩ := hv
  subst hH
  obtain ⟨tb, tn, tm, htn, hfit, htm, hP⟩ := hG
  have o_pj := kOKr hOK hpj
  have o_pi := kOKr hOK hpi
  have hx := B.exec
  have hb := B.bytes
  have hr := B.returns
  have hts := atoms_spec (ws := ww_X1_unitsToLeaf) B.pre
  have hown : s.vm.findClass RX1 = some m.cls := findClass_of_methodNamed B.named
  have hlocks := B.notSynchronized
  have hl := lv_entry ([.ref (q 0), .int (iZ ((pj : Nat) : Int)), .int (iZ ((pi : Nat) : Int)), .int (iZ uu)]) (n := 4) (Nat.le_of_ble_eq_true rfl)
  rw [lg_entry_eq]
  generalize (lg_sl ([.ref (q 0), .int (iZ ((pj : Nat) : Int)), .int (iZ ((pi : Nat) : Int)), .int (iZ uu)]) ++ List.replicate (4 - (lg_sl ([.ref (q 0), .int (iZ ((pj : Nat) : Int)), .int (iZ ((pi : Nat) : Int)), .int (iZ uu)])).length) Slot.unset).toArray = ls at hl ⊢
  have hl : lv_has ls 4 [(0, .ref (q 0)), (1, .int (iZ ((pj : Nat) : Int))), (2, .int (iZ ((pi : Nat) : Int))), (3, .int (iZ uu))] := hl
  refine lv_aload_n hx hb dX1_unitsToLeaf_0 rfl (lv_at hl 0 rfl) ?_
  refine va_get (D := (dC, dI)) (ci := 4) (v := .ref (q 1)) (C := RX1) (T := TX1) (N := 8) hx hb hts (fun w h => List.mem_cons_of_mem _ (gF_0_in h)) hown hM.1 hP 0 rfl rfl 0 (by decide) (hts _ (List.mem_cons_of_mem _ mw97)) (fun _ h9 => h9) rfl dX1_unitsToLeaf_1 ?_
  refine lv_iload_n hx hb dX1_unitsToLeaf_4 rfl (lv_at hl 2 rfl) ?_
  refine kz_lald (v := cnt (σ 0 pi) (σ 1 pi)) hx hb hM.1 hP 1 1 rfl rfl (by omega) (by decide) rfl dX1_unitsToLeaf_5 ?_
  refine lv_aload_n hx hb dX1_unitsToLeaf_6 rfl (lv_at hl 0 rfl) ?_
  refine va_get (D := (dC, dI)) (ci := 4) (v := .ref (q 1)) (C := RX1) (T := TX1) (N := 8) hx hb hts (fun w h => List.mem_cons_of_mem _ (gF_0_in h)) hown hM.1 hP 0 rfl rfl 0 (by decide) (hts _ (List.mem_cons_of_mem _ mw97)) (fun _ h9 => h9) rfl dX1_unitsToLeaf_7 ?_
  refine lv_iload_n hx hb dX1_unitsToLeaf_10 rfl (lv_at hl 1 rfl) ?_
  refine kz_lald (v := cnt (σ 0 pj) (σ 1 pj)) hx hb hM.1 hP 1 1 rfl rfl (by omega) (by decide) rfl dX1_unitsToLeaf_11 ?_
  refine kz_lsub hx hb dX1_unitsToLeaf_12 ?_
  refine lv_iload_n hx hb dX1_unitsToLeaf_13 rfl (lv_at hl 3 rfl) ?_
  refine kc0 (fun _ q => q) (va_runS (As := [.long (lZ ((cnt (σ 0 pi) (σ 1 pi)) - (cnt (σ 0 pj) (σ 1 pj)))), .int (iZ uu)]) (rest := []) ⟨hx, hb, hml, hown, hts⟩ (c_X0_unitsInMonths l _ (((cnt (σ 0 pi) (σ 1 pi)) - (cnt (σ 0 pj) (σ 1 pj)))) (uu) (by omega) (by omega)) (va_cwS 2 hts (kg_S mw576 mw577 mw51 rfl mw578) rfl rfl rfl hdS_X0_unitsInMonths ⟨Nat.le_of_ble_eq_true rfl, Nat.le_of_ble_eq_true rfl⟩) ⟨fun a U g mk q => q, fun U hU hW => ⟨rfl, hU⟩⟩ rfl rfl hl.1 rfl (lv_room (Nat.le_of_ble_eq_true rfl)) dX1_unitsToLeaf_14 ⟨Nat.le_of_ble_eq_true rfl, Nat.le_of_ble_eq_true rfl⟩) ?_
  exact W.lret (v := lZ (tq ((((cnt (σ 0 pi) (σ 1 pi)) - (cnt (σ 0 pj) (σ 1 pj))))) (usize ((uu))))) hx hb hr (fun t ht hW => ⟨congrArg (fun z : Int => Outcome.returned (some (Value.long (lZ z)))) (show (tq ((((cnt (σ 0 pi) (σ 1 pi)) - (cnt (σ 0 pj) (σ 1 pj))))) (usize ((uu)))) = (tq (cnt (σ 0 pi) (σ 1 pi) - cnt (σ 0 pj) (σ 1 pj)) (usize uu)) from by rfl), ht⟩) (fun q h => by cases h) dX1_unitsToLeaf_17

