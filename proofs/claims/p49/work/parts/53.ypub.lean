theorem ksg_e (a u : Int) (b : Bool) : usize u * sgn a b = sgn (a * usize u) b := by
  unfold sgn; split
  · rw [Int.mul_comm, Int.neg_mul]
  · rw [Int.mul_comm]
theorem ksg_u {a u : Int} {b : Bool} (ha : -2147483648 ≤ a ∧ a < 2147483648) : -100000000000000 ≤ usize u * sgn a b ∧ usize u * sgn a b ≤ 100000000000000 := by
  rw [ksg_e]
  have h := kmul_u (u := u) ha
  unfold sgn; split <;> omega
theorem ex2_z {A B : Bool} (h : ex2 A B = 0) : A = false ∧ B = false := by
  cases A <;> cases B <;> simp [ex2] at h ⊢
theorem kf_ne {A B a b : Bool} (h : ex2 A B = ex2 a b) (c : kf a b = true) : ¬ ex2 A B = 0 := by rw [h]; exact kf_t c
theorem kf_eq {A B a b : Bool} (h : ex2 A B = ex2 a b) (c : kf a b = false) : ex2 A B = 0 := by rw [h]; exact kf_e c
theorem kY0 {D : va_G} {cl : List vw_C} {dA : Nat → ClassId} {m0 : Nat} {r : Nat → Nat → Nat} {σ : Nat → Nat → Int} {th : Int} {w : va_W} {H : Heap} (h : va_P D cl (kY dA m0 r σ th ++ w) H) (e : th = 0) : va_P D cl (kY dA m0 r σ 0 ++ w) H := e ▸ h
theorem kD0 {A : Nat → Prop} {dA : Nat → ClassId} {m0 : Nat} {r : Nat → Nat → Nat} {σ : Nat → Nat → Int} {th : Int} {w : va_W} (h : va_D A (kY dA m0 r σ th ++ w)) (e : th = 0) : va_D A (kY dA m0 r σ 0 ++ w) := e ▸ h
abbrev ww_X3_leaf : List Cond := .code yX3_leaf cX3_leaf 4 (some .int) :: gT
set_option maxHeartbeats 4000000 in
set_option maxRecDepth 100000 in
theorem c_X3_leaf (l : Launch) (dC : Nat → ClassId) (dI : Nat → Nat → Nat) (dA : Nat → ClassId) (k : Nat → Nat) (m0 : Nat) (r0 : Nat → Nat → Nat) (σ : Nat → Nat → Int) (th : Int) (H0 : Heap) (hP : va_P (dC, dI) vwCl (kY dA m0 r0 σ th) H0) (hr : kRI m0 r0 k) (hOK : kOK σ) (z1 : Int) (yy : Int) (mo : Int) (rz1 : -2147483648 ≤ z1 ∧ z1 < 2147483648) (ryy : -2147483648 ≤ yy ∧ yy < 2147483648) (rmo : -2147483648 ≤ mo ∧ mo < 2147483648) : Met l yX3_leaf ww_X3_leaf ({ frames := 5, cells := 1, slots := 2, locals := 109 }) (va_Pc [.ref m0, .int (iZ z1), .int (iZ yy), .int (iZ mo)] (fun U => U.heap = H0 ∧ kM dC dI dA k U)) (kQ2 (some (.int (iZ (if ex2 (!inb z1 0 3) (!inb yy (-999999999) 999999999 || !inb mo 1 12) = 0 then (mlen (leap yy) mo) else 0)))) (gY dC dI dA k m0 r0 H0.size (if ex2 (!inb z1 0 3) (!inb yy (-999999999) 999999999 || !inb mo 1 12) = 0 then (sU (sU σ 0 z1.toNat yy) 1 z1.toNat mo) else σ) (ex2 (!inb z1 0 3) (!inb yy (-999999999) 999999999 || !inb mo 1 12))) (kAy m0 r0 H0.size)) 1 2 (kAy m0 r0 H0.size) := by
  refine Met.ofW (cc := cX3_leaf) (maxL := 4) (ret := (some .int)) (by decide) rfl ?_
  intro p e s m args below meth c s₁ B hml hv
  obtain ⟨rfl, hH, hM⟩ := hv
  subst hH
  have hr0 := hr
  have hAN : ∀ a, kAy m0 r0 s.heap.size a → k 0 ≤ a := fun a h => kAy_N hr0 hM.2.1.1 a h
  have hrA : ∀ i : Nat, i < 17 → kAy m0 r0 s.heap.size (kR m0 r0 i) := fun i hi => Or.inl ⟨i, hi, rfl⟩
  have hD : va_D (kAy m0 r0 s.heap.size) (kY dA m0 r0 σ (th) ++ ([] : va_W)) := by rw [← kap]; exact kYD_A hr hrA
  have hP : va_P (dC, dI) vwCl (kY dA m0 r0 σ (th) ++ ([] : va_W)) s.heap := hP
  have hS : va_S (kAy m0 r0 s.heap.size) s.heap s.heap [] := va_S.rf
  have hx := B.exec
  have hb := B.bytes
  have hr9 := B.returns
  have hts := atoms_spec (ws := ww_X3_leaf) B.pre
  have hown : s.vm.findClass RX3 = some m.cls := findClass_of_methodNamed B.named
  have hlocks := B.notSynchronized
  have hl := lv_entry ([.ref m0, .int (iZ z1), .int (iZ yy), .int (iZ mo)]) (n := 4) (Nat.le_of_ble_eq_true rfl)
  rw [lg_entry_eq]
  generalize (lg_sl ([.ref m0, .int (iZ z1), .int (iZ yy), .int (iZ mo)]) ++ List.replicate (4 - (lg_sl ([.ref m0, .int (iZ z1), .int (iZ yy), .int (iZ mo)])).length) Slot.unset).toArray = ls at hl ⊢
  have hl : lv_has ls 4 [(0, .ref m0), (1, .int (iZ z1)), (2, .int (iZ yy)), (3, .int (iZ mo))] := hl
  refine lv_aload_n hx hb dX3_leaf_0 rfl (lv_at hl 0 rfl) ?_
  refine lv_iload_n hx hb dX3_leaf_1 rfl (lv_at hl 1 rfl) ?_
  refine kc0 (fun _ q => q) (va_runS (As := [.int (iZ z1)]) (rest := [.ref m0]) ⟨hx, hb, hml, hown, hts⟩ (c_X3_isNo l _ (z1) (by first | omega | (unfold sgn; (try split) <;> omega))) (va_cwS 1 hts (kg_S mw1021 mw1022 mw47 rfl mw1023) rfl rfl rfl hdS_X3_isNo ⟨Nat.le_of_ble_eq_true rfl, Nat.le_of_ble_eq_true rfl⟩) ⟨fun a U g mk q => q, fun U hU hW => ⟨rfl, hU⟩⟩ rfl rfl hl.1 rfl (lv_room (Nat.le_of_ble_eq_true rfl)) dX3_leaf_2 ⟨Nat.le_of_ble_eq_true rfl, Nat.le_of_ble_eq_true rfl⟩) ?_
  refine lv_iload_n hx hb dX3_leaf_5 rfl (lv_at hl 2 rfl) ?_
  refine kz_i2l hx hb (by first | omega | (unfold sgn; (try split) <;> omega)) dX3_leaf_6 ?_
  refine kc0 (fun _ q => q) (va_runS (As := [.long (lZ (yy))]) (rest := [.int (iZ (bZ (!inb ((z1)) 0 3))), .ref m0]) ⟨hx, hb, hml, hown, hts⟩ (c_X3_isNoYear l _ (yy) (by first | omega | (unfold sgn; (try split) <;> omega))) (va_cwS 1 hts (kg_S mw1028 mw1029 mw47 rfl mw1030) rfl rfl rfl hdS_X3_isNoYear ⟨Nat.le_of_ble_eq_true rfl, Nat.le_of_ble_eq_true rfl⟩) ⟨fun a U g mk q => q, fun U hU hW => ⟨rfl, hU⟩⟩ rfl rfl hl.1 rfl (lv_room (Nat.le_of_ble_eq_true rfl)) dX3_leaf_7 ⟨Nat.le_of_ble_eq_true rfl, Nat.le_of_ble_eq_true rfl⟩) ?_
  refine kz_ifb_ne (tgt := 20) hx hb  dX3_leaf_10 (by decide) (fun c_1 => ?_) (fun c_1 => ?_)
  · refine lv_iconst (v := iZ 1) hx hb dX3_leaf_20 rfl ?_
    refine lv_goto (tgt := 25) hx hb dX3_leaf_21 (by decide) ?_
    refine kc2 (va_runV (As := [.int (iZ (bZ (!inb ((z1)) 0 3))), .int (iZ (bZ true))]) (rest := []) ⟨hx, hb, hml, hown, hts⟩ (c_X3_fails l dC dI dA k m0 (r0) (σ) (th) _ (va_Pl hP) hr hOK (!inb ((z1)) 0 3) true ) (cwV 2 hts (kg_V mw1037 mw1038 mw27 mw47 rfl mw1039) rfl rfl rfl hdV_X3_fails ⟨Nat.le_of_ble_eq_true rfl, Nat.le_of_ble_eq_true rfl⟩) ⟨fun a U g mk q => ⟨q.1, q.2.1, kM_call q.2.2⟩, va_recv hM.1 hP (ci := 6) (q0 := 0) rfl rfl, fun U hU hW => ⟨rfl, hU, kM_kept hM hS hAN hU hW⟩⟩ rfl rfl hl.1 rfl (lv_room (Nat.le_of_ble_eq_true rfl)) dX3_leaf_25 ⟨Nat.le_of_ble_eq_true rfl, Nat.le_of_ble_eq_true rfl⟩) hS (fun a _ h => kAy_tr hrA hS.1 a h) (fun a h => kAy_tr hrA hS.1 a h) (fun H locs hP9 hz9 hk9 hS => ?_)
    have hP : va_P (dC, dI) vwCl (kY dA m0 r0 σ (ex2 ((!inb ((z1)) 0 3)) true) ++ ([] : va_W)) _ := hP9
    have hD : va_D (kAy m0 r0 s.heap.size) (kY dA m0 r0 σ (ex2 ((!inb ((z1)) 0 3)) true) ++ ([] : va_W)) := by rw [← kap]; exact kYD_A hr hrA
    refine kz_ifb_eq (tgt := 35) hx hb  dX3_leaf_28 (by decide) (fun c_2 => absurd (kf_f c_2).2 (by decide)) (fun c_2 => ?_)
    have hX : ex2 (!inb z1 0 3) (!inb yy (-999999999) 999999999 || !inb mo 1 12) = ex2 (!inb ((z1)) 0 3) true := by first | rfl | simp only [c_1, Bool.true_or, Bool.or_true, Bool.false_or, Bool.or_false, Bool.not_true, Bool.not_false]
    have hN : ¬ ex2 (!inb z1 0 3) (!inb yy (-999999999) 999999999 || !inb mo 1 12) = 0 := kf_ne hX c_2
    refine lv_iconst (v := iZ 0) hx hb dX3_leaf_31 rfl ?_
    refine lv_goto (tgt := 42) hx hb dX3_leaf_32 (by decide) ?_
    refine W.widen (k := 1) (n := 2) (Nat.le_of_ble_eq_true rfl) (Nat.le_of_ble_eq_true rfl) ?_
    exact W.iret (v := iZ 0) hx hb hr9 (fun t ht hW => ⟨⟨congrArg (fun z : Int => Outcome.returned (some (Value.int (iZ z)))) (show 0 = (if ex2 (!inb z1 0 3) (!inb yy (-999999999) 999999999 || !inb mo 1 12) = 0 then (mlen (leap yy) mo) else 0) from by rw [if_neg hN]), gY_cast ⟨r0, hr, hrA, by rw [ht]; exact va_Pl hP⟩ (show (σ) = (if ex2 (!inb z1 0 3) (!inb yy (-999999999) 999999999 || !inb mo 1 12) = 0 then (sU (sU σ 0 z1.toNat yy) 1 z1.toNat mo) else σ) from by rw [if_neg hN]) (show (ex2 ((!inb ((z1)) 0 3)) true) = ex2 (!inb z1 0 3) (!inb yy (-999999999) 999999999 || !inb mo 1 12) from hX.symm)⟩, hS.F ht⟩) hS.2.2 dX3_leaf_42
  · refine lv_iload_n hx hb dX3_leaf_13 rfl (lv_at hl 3 rfl) ?_
    refine kc0 (fun _ q => q) (va_runS (As := [.int (iZ mo)]) (rest := [.int (iZ (bZ (!inb ((z1)) 0 3))), .ref m0]) ⟨hx, hb, hml, hown, hts⟩ (c_X3_isNoMonth l _ (mo) (by first | omega | (unfold sgn; (try split) <;> omega))) (va_cwS 1 hts (kg_S mw1033 mw1034 mw47 rfl mw1035) rfl rfl rfl hdS_X3_isNoMonth ⟨Nat.le_of_ble_eq_true rfl, Nat.le_of_ble_eq_true rfl⟩) ⟨fun a U g mk q => q, fun U hU hW => ⟨rfl, hU⟩⟩ rfl rfl hl.1 rfl (lv_room (Nat.le_of_ble_eq_true rfl)) dX3_leaf_14 ⟨Nat.le_of_ble_eq_true rfl, Nat.le_of_ble_eq_true rfl⟩) ?_
    refine kz_ifb_eq (tgt := 24) hx hb  dX3_leaf_17 (by decide) (fun c_3 => ?_) (fun c_3 => ?_)
    · refine lv_iconst (v := iZ 0) hx hb dX3_leaf_24 rfl ?_
      refine kc2 (va_runV (As := [.int (iZ (bZ (!inb ((z1)) 0 3))), .int (iZ (bZ false))]) (rest := []) ⟨hx, hb, hml, hown, hts⟩ (c_X3_fails l dC dI dA k m0 (r0) (σ) (th) _ (va_Pl hP) hr hOK (!inb ((z1)) 0 3) false ) (cwV 2 hts (kg_V mw1037 mw1038 mw27 mw47 rfl mw1039) rfl rfl rfl hdV_X3_fails ⟨Nat.le_of_ble_eq_true rfl, Nat.le_of_ble_eq_true rfl⟩) ⟨fun a U g mk q => ⟨q.1, q.2.1, kM_call q.2.2⟩, va_recv hM.1 hP (ci := 6) (q0 := 0) rfl rfl, fun U hU hW => ⟨rfl, hU, kM_kept hM hS hAN hU hW⟩⟩ rfl rfl hl.1 rfl (lv_room (Nat.le_of_ble_eq_true rfl)) dX3_leaf_25 ⟨Nat.le_of_ble_eq_true rfl, Nat.le_of_ble_eq_true rfl⟩) hS (fun a _ h => kAy_tr hrA hS.1 a h) (fun a h => kAy_tr hrA hS.1 a h) (fun H locs hP9 hz9 hk9 hS => ?_)
      have hP : va_P (dC, dI) vwCl (kY dA m0 r0 σ (ex2 ((!inb ((z1)) 0 3)) false) ++ ([] : va_W)) _ := hP9
      have hD : va_D (kAy m0 r0 s.heap.size) (kY dA m0 r0 σ (ex2 ((!inb ((z1)) 0 3)) false) ++ ([] : va_W)) := by rw [← kap]; exact kYD_A hr hrA
      refine kz_ifb_eq (tgt := 35) hx hb  dX3_leaf_28 (by decide) (fun c_4 => ?_) (fun c_4 => ?_)
      · have hX : ex2 (!inb z1 0 3) (!inb yy (-999999999) 999999999 || !inb mo 1 12) = ex2 (!inb ((z1)) 0 3) false := by first | rfl | simp only [c_1, c_3, Bool.true_or, Bool.or_true, Bool.false_or, Bool.or_false, Bool.not_true, Bool.not_false]
        have hZ : ex2 (!inb z1 0 3) (!inb yy (-999999999) 999999999 || !inb mo 1 12) = 0 := kf_eq hX c_4
        obtain ⟨hA9, hB9⟩ := ex2_z hZ
        simp only [Bool.or_eq_false_iff, Bool.not_eq_false', Bool.not_eq_true', inb, decide_eq_true_eq, decide_eq_false_iff_not, noThing_niff] at hA9
        simp only [Bool.or_eq_false_iff, Bool.not_eq_false', Bool.not_eq_true', inb, decide_eq_true_eq, decide_eq_false_iff_not, noThing_niff] at hB9
        obtain ⟨p1, hp1, rfl⟩ : ∃ p1 : Nat, p1 < 4 ∧ z1 = (p1 : Int) := ⟨z1.toNat, by omega, by omega⟩
        have o_p1 := kOKr hOK hp1
        have l_p1 := mlen_rng (leap (σ 0 p1)) (σ 1 p1)
        have n_p1 := dnum_rng (y := σ 5 p1) (m := σ 6 p1) (d := σ 7 p1) (by omega) (by omega) (by omega)
        have hP := kY0 hP (kf_e c_4)
        have hD := kD0 hD (kf_e c_4)
        refine lv_aload_n hx hb dX3_leaf_35 rfl (lv_at hl 0 rfl) ?_
        refine lv_iload_n hx hb dX3_leaf_36 rfl (lv_at hl 1 rfl) ?_
        refine lv_iload_n hx hb dX3_leaf_37 rfl (lv_at hl 2 rfl) ?_
        refine lv_iload_n hx hb dX3_leaf_38 rfl (lv_at hl 3 rfl) ?_
        refine kc2 (va_runV (As := [.int (iZ ((p1 : Nat) : Int)), .int (iZ yy), .int (iZ mo)]) (rest := []) ⟨hx, hb, hml, hown, hts⟩ (c_X3_putLeaf l dC dI dA k m0 (r0) (σ) (0) _ (va_Pl hP) hr hOK p1 (yy) (mo) hp1 (by first | omega | (unfold sgn; (try split) <;> omega)) (by first | omega | (unfold sgn; (try split) <;> omega))) (cwV 3 hts (kg_V mw1040 mw1041 mw28 mw47 rfl mw1042) rfl rfl rfl hdV_X3_putLeaf ⟨Nat.le_of_ble_eq_true rfl, Nat.le_of_ble_eq_true rfl⟩) ⟨fun a U g mk q => ⟨q.1, q.2.1, kM_call q.2.2⟩, va_recv hM.1 hP (ci := 6) (q0 := 0) rfl rfl, fun U hU hW => ⟨rfl, hU, kM_kept hM hS hAN hU hW⟩⟩ rfl rfl hl.1 rfl (lv_room (Nat.le_of_ble_eq_true rfl)) dX3_leaf_39 ⟨Nat.le_of_ble_eq_true rfl, Nat.le_of_ble_eq_true rfl⟩) hS (fun a _ h => kAy_tr hrA hS.1 a h) (fun a h => kAy_tr hrA hS.1 a h) (fun H locs hG hz9 hk9 hS9 => ?_)
        obtain ⟨r_5, hr, hrA9, hP⟩ := hG
        have hrA := kAy_tr2 hrA hS.1 hrA9
        have hS := hS9
        have hP : va_P (dC, dI) vwCl (kY dA m0 r_5 (sU (sU σ 0 p1 ((yy))) 1 p1 ((mo))) (0) ++ ([] : va_W)) _ := hP
        have hD : va_D (kAy m0 r0 s.heap.size) (kY dA m0 r_5 (sU (sU σ 0 p1 ((yy))) 1 p1 ((mo))) (0) ++ ([] : va_W)) := by rw [← kap]; exact kYD_A hr hrA
        refine W.widen (k := 1) (n := 2) (Nat.le_of_ble_eq_true rfl) (Nat.le_of_ble_eq_true rfl) ?_
        exact W.iret (v := iZ (mlen (leap ((yy))) ((mo)))) hx hb hr9 (fun t ht hW => ⟨⟨congrArg (fun z : Int => Outcome.returned (some (Value.int (iZ z)))) (show (mlen (leap ((yy))) ((mo))) = (if ex2 (!inb ((p1 : Nat) : Int) 0 3) (!inb yy (-999999999) 999999999 || !inb mo 1 12) = 0 then (mlen (leap yy) mo) else 0) from by rw [if_pos hZ]; done), gY_cast ⟨r_5, hr, hrA, by rw [ht]; exact va_Pl hP⟩ (show (sU (sU σ 0 p1 ((yy))) 1 p1 ((mo))) = (if ex2 (!inb ((p1 : Nat) : Int) 0 3) (!inb yy (-999999999) 999999999 || !inb mo 1 12) = 0 then (sU (sU σ 0 p1 yy) 1 p1 mo) else σ) from by rw [if_pos hZ]; done) (show (0) = ex2 (!inb ((p1 : Nat) : Int) 0 3) (!inb yy (-999999999) 999999999 || !inb mo 1 12) from hZ.symm)⟩, hS.F ht⟩) hS.2.2 dX3_leaf_42
      · have hX : ex2 (!inb z1 0 3) (!inb yy (-999999999) 999999999 || !inb mo 1 12) = ex2 (!inb ((z1)) 0 3) false := by first | rfl | simp only [c_1, c_3, Bool.true_or, Bool.or_true, Bool.false_or, Bool.or_false, Bool.not_true, Bool.not_false]
        have hN : ¬ ex2 (!inb z1 0 3) (!inb yy (-999999999) 999999999 || !inb mo 1 12) = 0 := kf_ne hX c_4
        refine lv_iconst (v := iZ 0) hx hb dX3_leaf_31 rfl ?_
        refine lv_goto (tgt := 42) hx hb dX3_leaf_32 (by decide) ?_
        refine W.widen (k := 1) (n := 2) (Nat.le_of_ble_eq_true rfl) (Nat.le_of_ble_eq_true rfl) ?_
        exact W.iret (v := iZ 0) hx hb hr9 (fun t ht hW => ⟨⟨congrArg (fun z : Int => Outcome.returned (some (Value.int (iZ z)))) (show 0 = (if ex2 (!inb z1 0 3) (!inb yy (-999999999) 999999999 || !inb mo 1 12) = 0 then (mlen (leap yy) mo) else 0) from by rw [if_neg hN]), gY_cast ⟨r0, hr, hrA, by rw [ht]; exact va_Pl hP⟩ (show (σ) = (if ex2 (!inb z1 0 3) (!inb yy (-999999999) 999999999 || !inb mo 1 12) = 0 then (sU (sU σ 0 z1.toNat yy) 1 z1.toNat mo) else σ) from by rw [if_neg hN]) (show (ex2 ((!inb ((z1)) 0 3)) false) = ex2 (!inb z1 0 3) (!inb yy (-999999999) 999999999 || !inb mo 1 12) from hX.symm)⟩, hS.F ht⟩) hS.2.2 dX3_leaf_42
    · refine lv_iconst (v := iZ 1) hx hb dX3_leaf_20 rfl ?_
      refine lv_goto (tgt := 25) hx hb dX3_leaf_21 (by decide) ?_
      refine kc2 (va_runV (As := [.int (iZ (bZ (!inb ((z1)) 0 3))), .int (iZ (bZ true))]) (rest := []) ⟨hx, hb, hml, hown, hts⟩ (c_X3_fails l dC dI dA k m0 (r0) (σ) (th) _ (va_Pl hP) hr hOK (!inb ((z1)) 0 3) true ) (cwV 2 hts (kg_V mw1037 mw1038 mw27 mw47 rfl mw1039) rfl rfl rfl hdV_X3_fails ⟨Nat.le_of_ble_eq_true rfl, Nat.le_of_ble_eq_true rfl⟩) ⟨fun a U g mk q => ⟨q.1, q.2.1, kM_call q.2.2⟩, va_recv hM.1 hP (ci := 6) (q0 := 0) rfl rfl, fun U hU hW => ⟨rfl, hU, kM_kept hM hS hAN hU hW⟩⟩ rfl rfl hl.1 rfl (lv_room (Nat.le_of_ble_eq_true rfl)) dX3_leaf_25 ⟨Nat.le_of_ble_eq_true rfl, Nat.le_of_ble_eq_true rfl⟩) hS (fun a _ h => kAy_tr hrA hS.1 a h) (fun a h => kAy_tr hrA hS.1 a h) (fun H locs hP9 hz9 hk9 hS => ?_)
      have hP : va_P (dC, dI) vwCl (kY dA m0 r0 σ (ex2 ((!inb ((z1)) 0 3)) true) ++ ([] : va_W)) _ := hP9
      have hD : va_D (kAy m0 r0 s.heap.size) (kY dA m0 r0 σ (ex2 ((!inb ((z1)) 0 3)) true) ++ ([] : va_W)) := by rw [← kap]; exact kYD_A hr hrA
      refine kz_ifb_eq (tgt := 35) hx hb  dX3_leaf_28 (by decide) (fun c_6 => absurd (kf_f c_6).2 (by decide)) (fun c_6 => ?_)
      have hX : ex2 (!inb z1 0 3) (!inb yy (-999999999) 999999999 || !inb mo 1 12) = ex2 (!inb ((z1)) 0 3) true := by first | rfl | simp only [c_1, c_3, Bool.true_or, Bool.or_true, Bool.false_or, Bool.or_false, Bool.not_true, Bool.not_false]
      have hN : ¬ ex2 (!inb z1 0 3) (!inb yy (-999999999) 999999999 || !inb mo 1 12) = 0 := kf_ne hX c_6
      refine lv_iconst (v := iZ 0) hx hb dX3_leaf_31 rfl ?_
      refine lv_goto (tgt := 42) hx hb dX3_leaf_32 (by decide) ?_
      refine W.widen (k := 1) (n := 2) (Nat.le_of_ble_eq_true rfl) (Nat.le_of_ble_eq_true rfl) ?_
      exact W.iret (v := iZ 0) hx hb hr9 (fun t ht hW => ⟨⟨congrArg (fun z : Int => Outcome.returned (some (Value.int (iZ z)))) (show 0 = (if ex2 (!inb z1 0 3) (!inb yy (-999999999) 999999999 || !inb mo 1 12) = 0 then (mlen (leap yy) mo) else 0) from by rw [if_neg hN]), gY_cast ⟨r0, hr, hrA, by rw [ht]; exact va_Pl hP⟩ (show (σ) = (if ex2 (!inb z1 0 3) (!inb yy (-999999999) 999999999 || !inb mo 1 12) = 0 then (sU (sU σ 0 z1.toNat yy) 1 z1.toNat mo) else σ) from by rw [if_neg hN]) (show (ex2 ((!inb ((z1)) 0 3)) true) = ex2 (!inb z1 0 3) (!inb yy (-999999999) 999999999 || !inb mo 1 12) from hX.symm)⟩, hS.F ht⟩) hS.2.2 dX3_leaf_42

abbrev ww_X3_leafRound : List Cond := .code yX3_leafRound cX3_leafRound 4 (some .int) :: gT
set_option maxHeartbeats 4000000 in
set_option maxRecDepth 100000 in
theorem c_X3_leafRound (l : Launch) (dC : Nat → ClassId) (dI : Nat → Nat → Nat) (dA : Nat → ClassId) (k : Nat → Nat) (m0 : Nat) (r0 : Nat → Nat → Nat) (σ : Nat → Nat → Int) (th : Int) (H0 : Heap) (hP : va_P (dC, dI) vwCl (kY dA m0 r0 σ th) H0) (hr : kRI m0 r0 k) (hOK : kOK σ) (z1 : Int) (yy : Int) (mm : Int) (rz1 : -2147483648 ≤ z1 ∧ z1 < 2147483648) (ryy : -2147483648 ≤ yy ∧ yy < 2147483648) (rmm : -2147483648 ≤ mm ∧ mm < 2147483648) : Met l yX3_leafRound ww_X3_leafRound ({ frames := 5, cells := 1, slots := 2, locals := 109 }) (va_Pc [.ref m0, .int (iZ z1), .int (iZ yy), .int (iZ mm)] (fun U => U.heap = H0 ∧ kM dC dI dA k U)) (kQ2 (some (.int (iZ (if ex2 (!inb z1 0 3) (!inb yy (-999999999) 999999999) = 0 then (1 + mm % 12) else 0)))) (gY dC dI dA k m0 r0 H0.size (if ex2 (!inb z1 0 3) (!inb yy (-999999999) 999999999) = 0 then (sU (sU σ 0 z1.toNat yy) 1 z1.toNat (1 + mm % 12)) else σ) (ex2 (!inb z1 0 3) (!inb yy (-999999999) 999999999))) (kAy m0 r0 H0.size)) 1 2 (kAy m0 r0 H0.size) := by
  refine Met.ofW (cc := cX3_leafRound) (maxL := 4) (ret := (some .int)) (by decide) rfl ?_
  intro p e s m args below meth c s₁ B hml hv
  obtain ⟨rfl, hH, hM⟩ := hv
  subst hH
  have hr0 := hr
  have hAN : ∀ a, kAy m0 r0 s.heap.size a → k 0 ≤ a := fun a h => kAy_N hr0 hM.2.1.1 a h
  have hrA : ∀ i : Nat, i < 17 → kAy m0 r0 s.heap.size (kR m0 r0 i) := fun i hi => Or.inl ⟨i, hi, rfl⟩
  have hD : va_D (kAy m0 r0 s.heap.size) (kY dA m0 r0 σ (th) ++ ([] : va_W)) := by rw [← kap]; exact kYD_A hr hrA
  have hP : va_P (dC, dI) vwCl (kY dA m0 r0 σ (th) ++ ([] : va_W)) s.heap := hP
  have hS : va_S (kAy m0 r0 s.heap.size) s.heap s.heap [] := va_S.rf
  have hx := B.exec
  have hb := B.bytes
  have hr9 := B.returns
  have hts := atoms_spec (ws := ww_X3_leafRound) B.pre
  have hown : s.vm.findClass RX3 = some m.cls := findClass_of_methodNamed B.named
  have hlocks := B.notSynchronized
  have hl := lv_entry ([.ref m0, .int (iZ z1), .int (iZ yy), .int (iZ mm)]) (n := 4) (Nat.le_of_ble_eq_true rfl)
  rw [lg_entry_eq]
  generalize (lg_sl ([.ref m0, .int (iZ z1), .int (iZ yy), .int (iZ mm)]) ++ List.replicate (4 - (lg_sl ([.ref m0, .int (iZ z1), .int (iZ yy), .int (iZ mm)])).length) Slot.unset).toArray = ls at hl ⊢
  have hl : lv_has ls 4 [(0, .ref m0), (1, .int (iZ z1)), (2, .int (iZ yy)), (3, .int (iZ mm))] := hl
  refine lv_aload_n hx hb dX3_leafRound_0 rfl (lv_at hl 0 rfl) ?_
  refine lv_iload_n hx hb dX3_leafRound_1 rfl (lv_at hl 1 rfl) ?_
  refine kc0 (fun _ q => q) (va_runS (As := [.int (iZ z1)]) (rest := [.ref m0]) ⟨hx, hb, hml, hown, hts⟩ (c_X3_isNo l _ (z1) (by first | omega | (unfold sgn; (try split) <;> omega))) (va_cwS 1 hts (kg_S mw1021 mw1022 mw47 rfl mw1023) rfl rfl rfl hdS_X3_isNo ⟨Nat.le_of_ble_eq_true rfl, Nat.le_of_ble_eq_true rfl⟩) ⟨fun a U g mk q => q, fun U hU hW => ⟨rfl, hU⟩⟩ rfl rfl hl.1 rfl (lv_room (Nat.le_of_ble_eq_true rfl)) dX3_leafRound_2 ⟨Nat.le_of_ble_eq_true rfl, Nat.le_of_ble_eq_true rfl⟩) ?_
  refine lv_iload_n hx hb dX3_leafRound_5 rfl (lv_at hl 2 rfl) ?_
  refine kz_i2l hx hb (by first | omega | (unfold sgn; (try split) <;> omega)) dX3_leafRound_6 ?_
  refine kc0 (fun _ q => q) (va_runS (As := [.long (lZ (yy))]) (rest := [.int (iZ (bZ (!inb ((z1)) 0 3))), .ref m0]) ⟨hx, hb, hml, hown, hts⟩ (c_X3_isNoYear l _ (yy) (by first | omega | (unfold sgn; (try split) <;> omega))) (va_cwS 1 hts (kg_S mw1028 mw1029 mw47 rfl mw1030) rfl rfl rfl hdS_X3_isNoYear ⟨Nat.le_of_ble_eq_true rfl, Nat.le_of_ble_eq_true rfl⟩) ⟨fun a U g mk q => q, fun U hU hW => ⟨rfl, hU⟩⟩ rfl rfl hl.1 rfl (lv_room (Nat.le_of_ble_eq_true rfl)) dX3_leafRound_7 ⟨Nat.le_of_ble_eq_true rfl, Nat.le_of_ble_eq_true rfl⟩) ?_
  refine kc2 (va_runV (As := [.int (iZ (bZ (!inb ((z1)) 0 3))), .int (iZ (bZ (!inb ((yy)) (-999999999) 999999999)))]) (rest := []) ⟨hx, hb, hml, hown, hts⟩ (c_X3_fails l dC dI dA k m0 (r0) (σ) (th) _ (va_Pl hP) hr hOK (!inb ((z1)) 0 3) (!inb ((yy)) (-999999999) 999999999) ) (cwV 2 hts (kg_V mw1037 mw1038 mw27 mw47 rfl mw1039) rfl rfl rfl hdV_X3_fails ⟨Nat.le_of_ble_eq_true rfl, Nat.le_of_ble_eq_true rfl⟩) ⟨fun a U g mk q => ⟨q.1, q.2.1, kM_call q.2.2⟩, va_recv hM.1 hP (ci := 6) (q0 := 0) rfl rfl, fun U hU hW => ⟨rfl, hU, kM_kept hM hS hAN hU hW⟩⟩ rfl rfl hl.1 rfl (lv_room (Nat.le_of_ble_eq_true rfl)) dX3_leafRound_10 ⟨Nat.le_of_ble_eq_true rfl, Nat.le_of_ble_eq_true rfl⟩) hS (fun a _ h => kAy_tr hrA hS.1 a h) (fun a h => kAy_tr hrA hS.1 a h) (fun H locs hP9 hz9 hk9 hS => ?_)
  have hP : va_P (dC, dI) vwCl (kY dA m0 r0 σ (ex2 ((!inb ((z1)) 0 3)) ((!inb ((yy)) (-999999999) 999999999))) ++ ([] : va_W)) _ := hP9
  have hD : va_D (kAy m0 r0 s.heap.size) (kY dA m0 r0 σ (ex2 ((!inb ((z1)) 0 3)) ((!inb ((yy)) (-999999999) 999999999))) ++ ([] : va_W)) := by rw [← kap]; exact kYD_A hr hrA
  refine kz_ifb_eq (tgt := 18) hx hb  dX3_leafRound_13 (by decide) (fun c_1 => ?_) (fun c_1 => ?_)
  · have hX : ex2 (!inb z1 0 3) (!inb yy (-999999999) 999999999) = ex2 (!inb ((z1)) 0 3) (!inb ((yy)) (-999999999) 999999999) := by first | rfl | simp only [Bool.true_or, Bool.or_true, Bool.false_or, Bool.or_false, Bool.not_true, Bool.not_false]
    have hZ : ex2 (!inb z1 0 3) (!inb yy (-999999999) 999999999) = 0 := kf_eq hX c_1
    obtain ⟨hA9, hB9⟩ := ex2_z hZ
    simp only [Bool.or_eq_false_iff, Bool.not_eq_false', Bool.not_eq_true', inb, decide_eq_true_eq, decide_eq_false_iff_not, noThing_niff] at hA9
    simp only [Bool.or_eq_false_iff, Bool.not_eq_false', Bool.not_eq_true', inb, decide_eq_true_eq, decide_eq_false_iff_not, noThing_niff] at hB9
    obtain ⟨p1, hp1, rfl⟩ : ∃ p1 : Nat, p1 < 4 ∧ z1 = (p1 : Int) := ⟨z1.toNat, by omega, by omega⟩
    have o_p1 := kOKr hOK hp1
    have l_p1 := mlen_rng (leap (σ 0 p1)) (σ 1 p1)
    have n_p1 := dnum_rng (y := σ 5 p1) (m := σ 6 p1) (d := σ 7 p1) (by omega) (by omega) (by omega)
    have hP := kY0 hP (kf_e c_1)
    have hD := kD0 hD (kf_e c_1)
    refine lv_aload_n hx hb dX3_leafRound_18 rfl (lv_at hl 0 rfl) ?_
    refine lv_iload_n hx hb dX3_leafRound_19 rfl (lv_at hl 1 rfl) ?_
    refine lv_iload_n hx hb dX3_leafRound_20 rfl (lv_at hl 2 rfl) ?_
    refine lv_iload_n hx hb dX3_leafRound_21 rfl (lv_at hl 3 rfl) ?_
    refine kc0 (fun _ q => q) (va_runS (As := [.int (iZ mm)]) (rest := [.int (iZ yy), .int (iZ ((p1 : Nat) : Int)), .ref m0]) ⟨hx, hb, hml, hown, hts⟩ (c_X3_round l _ (mm) (by first | omega | (unfold sgn; (try split) <;> omega))) (va_cwS 1 hts (kg_S mw1060 mw1061 mw47 rfl mw1062) rfl rfl rfl hdS_X3_round ⟨Nat.le_of_ble_eq_true rfl, Nat.le_of_ble_eq_true rfl⟩) ⟨fun a U g mk q => q, fun U hU hW => ⟨rfl, hU⟩⟩ rfl rfl hl.1 rfl (lv_room (Nat.le_of_ble_eq_true rfl)) dX3_leafRound_22 ⟨Nat.le_of_ble_eq_true rfl, Nat.le_of_ble_eq_true rfl⟩) ?_
    refine kc2 (va_runV (As := [.int (iZ ((p1 : Nat) : Int)), .int (iZ yy), .int (iZ (1 + ((mm)) % 12))]) (rest := []) ⟨hx, hb, hml, hown, hts⟩ (c_X3_putLeaf l dC dI dA k m0 (r0) (σ) (0) _ (va_Pl hP) hr hOK p1 (yy) ((1 + ((mm)) % 12)) hp1 (by first | omega | (unfold sgn; (try split) <;> omega)) (by first | omega | (unfold sgn; (try split) <;> omega))) (cwV 3 hts (kg_V mw1040 mw1041 mw28 mw47 rfl mw1042) rfl rfl rfl hdV_X3_putLeaf ⟨Nat.le_of_ble_eq_true rfl, Nat.le_of_ble_eq_true rfl⟩) ⟨fun a U g mk q => ⟨q.1, q.2.1, kM_call q.2.2⟩, va_recv hM.1 hP (ci := 6) (q0 := 0) rfl rfl, fun U hU hW => ⟨rfl, hU, kM_kept hM hS hAN hU hW⟩⟩ rfl rfl hl.1 rfl (lv_room (Nat.le_of_ble_eq_true rfl)) dX3_leafRound_25 ⟨Nat.le_of_ble_eq_true rfl, Nat.le_of_ble_eq_true rfl⟩) hS (fun a _ h => kAy_tr hrA hS.1 a h) (fun a h => kAy_tr hrA hS.1 a h) (fun H locs hG hz9 hk9 hS9 => ?_)
    obtain ⟨r_2, hr, hrA9, hP⟩ := hG
    have hrA := kAy_tr2 hrA hS.1 hrA9
    have hS := hS9
    have hP : va_P (dC, dI) vwCl (kY dA m0 r_2 (sU (sU σ 0 p1 ((yy))) 1 p1 (((1 + ((mm)) % 12)))) (0) ++ ([] : va_W)) _ := hP
    have hD : va_D (kAy m0 r0 s.heap.size) (kY dA m0 r_2 (sU (sU σ 0 p1 ((yy))) 1 p1 (((1 + ((mm)) % 12)))) (0) ++ ([] : va_W)) := by rw [← kap]; exact kYD_A hr hrA
    refine lv_pop hx hb dX3_leafRound_28 rfl ?_
    refine lv_iload_n hx hb dX3_leafRound_29 rfl (lv_at hl 3 rfl) ?_
    refine kc0 (fun _ q => q) (va_runS (As := [.int (iZ mm)]) (rest := []) ⟨hx, hb, hml, hown, hts⟩ (c_X3_round l _ (mm) (by first | omega | (unfold sgn; (try split) <;> omega))) (va_cwS 1 hts (kg_S mw1060 mw1061 mw47 rfl mw1062) rfl rfl rfl hdS_X3_round ⟨Nat.le_of_ble_eq_true rfl, Nat.le_of_ble_eq_true rfl⟩) ⟨fun a U g mk q => q, fun U hU hW => ⟨rfl, hU⟩⟩ rfl rfl hl.1 rfl (lv_room (Nat.le_of_ble_eq_true rfl)) dX3_leafRound_30 ⟨Nat.le_of_ble_eq_true rfl, Nat.le_of_ble_eq_true rfl⟩) ?_
    refine W.widen (k := 1) (n := 2) (Nat.le_of_ble_eq_true rfl) (Nat.le_of_ble_eq_true rfl) ?_
    exact W.iret (v := iZ (1 + ((mm)) % 12)) hx hb hr9 (fun t ht hW => ⟨⟨congrArg (fun z : Int => Outcome.returned (some (Value.int (iZ z)))) (show (1 + ((mm)) % 12) = (if ex2 (!inb ((p1 : Nat) : Int) 0 3) (!inb yy (-999999999) 999999999) = 0 then (1 + mm % 12) else 0) from by rw [if_pos hZ]; done), gY_cast ⟨r_2, hr, hrA, by rw [ht]; exact va_Pl hP⟩ (show (sU (sU σ 0 p1 ((yy))) 1 p1 (((1 + ((mm)) % 12)))) = (if ex2 (!inb ((p1 : Nat) : Int) 0 3) (!inb yy (-999999999) 999999999) = 0 then (sU (sU σ 0 p1 yy) 1 p1 (1 + mm % 12)) else σ) from by rw [if_pos hZ]; done) (show (0) = ex2 (!inb ((p1 : Nat) : Int) 0 3) (!inb yy (-999999999) 999999999) from hZ.symm)⟩, hS.F ht⟩) hS.2.2 dX3_leafRound_33
  · have hX : ex2 (!inb z1 0 3) (!inb yy (-999999999) 999999999) = ex2 (!inb ((z1)) 0 3) (!inb ((yy)) (-999999999) 999999999) := by first | rfl | simp only [Bool.true_or, Bool.or_true, Bool.false_or, Bool.or_false, Bool.not_true, Bool.not_false]
    have hN : ¬ ex2 (!inb z1 0 3) (!inb yy (-999999999) 999999999) = 0 := kf_ne hX c_1
    refine lv_iconst (v := iZ 0) hx hb dX3_leafRound_16 rfl ?_
    refine W.widen (k := 1) (n := 2) (Nat.le_of_ble_eq_true rfl) (Nat.le_of_ble_eq_true rfl) ?_
    exact W.iret (v := iZ 0) hx hb hr9 (fun t ht hW => ⟨⟨congrArg (fun z : Int => Outcome.returned (some (Value.int (iZ z)))) (show 0 = (if ex2 (!inb z1 0 3) (!inb yy (-999999999) 999999999) = 0 then (1 + mm % 12) else 0) from by rw [if_neg hN]), gY_cast ⟨r0, hr, hrA, by rw [ht]; exact va_Pl hP⟩ (show (σ) = (if ex2 (!inb z1 0 3) (!inb yy (-999999999) 999999999) = 0 then (sU (sU σ 0 z1.toNat yy) 1 z1.toNat (1 + mm % 12)) else σ) from by rw [if_neg hN]) (show (ex2 ((!inb ((z1)) 0 3)) ((!inb ((yy)) (-999999999) 999999999))) = ex2 (!inb z1 0 3) (!inb yy (-999999999) 999999999) from hX.symm)⟩, hS.F ht⟩) hS.2.2 dX3_leafRound_17

abbrev ww_X3_months : List Cond := .code yX3_months cX3_months 4 (some .int) :: gT
set_option maxHeartbeats 4000000 in
set_option maxRecDepth 100000 in
theorem c_X3_months (l : Launch) (dC : Nat → ClassId) (dI : Nat → Nat → Nat) (dA : Nat → ClassId) (k : Nat → Nat) (m0 : Nat) (r0 : Nat → Nat → Nat) (σ : Nat → Nat → Int) (th : Int) (H0 : Heap) (hP : va_P (dC, dI) vwCl (kY dA m0 r0 σ th) H0) (hr : kRI m0 r0 k) (hOK : kOK σ) (z1 : Int) (mm : Int) (bb : Bool) (rz1 : -2147483648 ≤ z1 ∧ z1 < 2147483648) (rmm : -2147483648 ≤ mm ∧ mm < 2147483648) : Met l yX3_months ww_X3_months ({ frames := 6, cells := 1, slots := 2, locals := 134 }) (va_Pc [.ref m0, .int (iZ z1), .int (iZ mm), .int (iZ (bZ (bb)))] (fun U => U.heap = H0 ∧ kM dC dI dA k U)) (kQ2 (some (.int (iZ (if ex2 (!inb z1 0 3) (false) = 0 then (putLr (cnt (σ 0 (z1.toNat)) (σ 1 (z1.toNat)) + sgn mm bb)) else 0)))) (gY dC dI dA k m0 r0 H0.size (if ex2 (!inb z1 0 3) (false) = 0 then (putLs σ (z1.toNat) (cnt (σ 0 (z1.toNat)) (σ 1 (z1.toNat)) + sgn mm bb)) else σ) (ex2 (!inb z1 0 3) (false))) (kAy m0 r0 H0.size)) 1 2 (kAy m0 r0 H0.size) := by
  refine Met.ofW (cc := cX3_months) (maxL := 4) (ret := (some .int)) (by decide) rfl ?_
  intro p e s m args below meth c s₁ B hml hv
  obtain ⟨rfl, hH, hM⟩ := hv
  subst hH
  have hr0 := hr
  have hAN : ∀ a, kAy m0 r0 s.heap.size a → k 0 ≤ a := fun a h => kAy_N hr0 hM.2.1.1 a h
  have hrA : ∀ i : Nat, i < 17 → kAy m0 r0 s.heap.size (kR m0 r0 i) := fun i hi => Or.inl ⟨i, hi, rfl⟩
  have hD : va_D (kAy m0 r0 s.heap.size) (kY dA m0 r0 σ (th) ++ ([] : va_W)) := by rw [← kap]; exact kYD_A hr hrA
  have hP : va_P (dC, dI) vwCl (kY dA m0 r0 σ (th) ++ ([] : va_W)) s.heap := hP
  have hS : va_S (kAy m0 r0 s.heap.size) s.heap s.heap [] := va_S.rf
  have hx := B.exec
  have hb := B.bytes
  have hr9 := B.returns
  have hts := atoms_spec (ws := ww_X3_months) B.pre
  have hown : s.vm.findClass RX3 = some m.cls := findClass_of_methodNamed B.named
  have hlocks := B.notSynchronized
  have hl := lv_entry ([.ref m0, .int (iZ z1), .int (iZ mm), .int (iZ (bZ (bb)))]) (n := 4) (Nat.le_of_ble_eq_true rfl)
  rw [lg_entry_eq]
  generalize (lg_sl ([.ref m0, .int (iZ z1), .int (iZ mm), .int (iZ (bZ (bb)))]) ++ List.replicate (4 - (lg_sl ([.ref m0, .int (iZ z1), .int (iZ mm), .int (iZ (bZ (bb)))])).length) Slot.unset).toArray = ls at hl ⊢
  have hl : lv_has ls 4 [(0, .ref m0), (1, .int (iZ z1)), (2, .int (iZ mm)), (3, .int (iZ (bZ (bb))))] := hl
  refine lv_aload_n hx hb dX3_months_0 rfl (lv_at hl 0 rfl) ?_
  refine lv_iload_n hx hb dX3_months_1 rfl (lv_at hl 1 rfl) ?_
  refine kc0 (fun _ q => q) (va_runS (As := [.int (iZ z1)]) (rest := [.ref m0]) ⟨hx, hb, hml, hown, hts⟩ (c_X3_isNo l _ (z1) (by first | omega | (unfold sgn; (try split) <;> omega))) (va_cwS 1 hts (kg_S mw1021 mw1022 mw47 rfl mw1023) rfl rfl rfl hdS_X3_isNo ⟨Nat.le_of_ble_eq_true rfl, Nat.le_of_ble_eq_true rfl⟩) ⟨fun a U g mk q => q, fun U hU hW => ⟨rfl, hU⟩⟩ rfl rfl hl.1 rfl (lv_room (Nat.le_of_ble_eq_true rfl)) dX3_months_2 ⟨Nat.le_of_ble_eq_true rfl, Nat.le_of_ble_eq_true rfl⟩) ?_
  refine lv_iconst (v := iZ 0) hx hb dX3_months_5 rfl ?_
  refine kc2 (va_runV (As := [.int (iZ (bZ (!inb ((z1)) 0 3))), .int (iZ (bZ false))]) (rest := []) ⟨hx, hb, hml, hown, hts⟩ (c_X3_fails l dC dI dA k m0 (r0) (σ) (th) _ (va_Pl hP) hr hOK (!inb ((z1)) 0 3) false ) (cwV 2 hts (kg_V mw1037 mw1038 mw27 mw47 rfl mw1039) rfl rfl rfl hdV_X3_fails ⟨Nat.le_of_ble_eq_true rfl, Nat.le_of_ble_eq_true rfl⟩) ⟨fun a U g mk q => ⟨q.1, q.2.1, kM_call q.2.2⟩, va_recv hM.1 hP (ci := 6) (q0 := 0) rfl rfl, fun U hU hW => ⟨rfl, hU, kM_kept hM hS hAN hU hW⟩⟩ rfl rfl hl.1 rfl (lv_room (Nat.le_of_ble_eq_true rfl)) dX3_months_6 ⟨Nat.le_of_ble_eq_true rfl, Nat.le_of_ble_eq_true rfl⟩) hS (fun a _ h => kAy_tr hrA hS.1 a h) (fun a h => kAy_tr hrA hS.1 a h) (fun H locs hP9 hz9 hk9 hS => ?_)
  have hP : va_P (dC, dI) vwCl (kY dA m0 r0 σ (ex2 ((!inb ((z1)) 0 3)) false) ++ ([] : va_W)) _ := hP9
  have hD : va_D (kAy m0 r0 s.heap.size) (kY dA m0 r0 σ (ex2 ((!inb ((z1)) 0 3)) false) ++ ([] : va_W)) := by rw [← kap]; exact kYD_A hr hrA
  refine kz_ifb_eq (tgt := 16) hx hb  dX3_months_9 (by decide) (fun c_1 => ?_) (fun c_1 => ?_)
  · have hX : ex2 (!inb z1 0 3) (false) = ex2 (!inb ((z1)) 0 3) false := by first | rfl | simp only [Bool.true_or, Bool.or_true, Bool.false_or, Bool.or_false, Bool.not_true, Bool.not_false]
    have hZ : ex2 (!inb z1 0 3) (false) = 0 := kf_eq hX c_1
    obtain ⟨hA9, hB9⟩ := ex2_z hZ
    simp only [Bool.or_eq_false_iff, Bool.not_eq_false', Bool.not_eq_true', inb, decide_eq_true_eq, decide_eq_false_iff_not, noThing_niff] at hA9
    obtain ⟨p1, hp1, rfl⟩ : ∃ p1 : Nat, p1 < 4 ∧ z1 = (p1 : Int) := ⟨z1.toNat, by omega, by omega⟩
    have o_p1 := kOKr hOK hp1
    have l_p1 := mlen_rng (leap (σ 0 p1)) (σ 1 p1)
    have n_p1 := dnum_rng (y := σ 5 p1) (m := σ 6 p1) (d := σ 7 p1) (by omega) (by omega) (by omega)
    have hP := kY0 hP (kf_e c_1)
    have hD := kD0 hD (kf_e c_1)
    refine lv_aload_n hx hb dX3_months_16 rfl (lv_at hl 0 rfl) ?_
    refine lv_iload_n hx hb dX3_months_17 rfl (lv_at hl 1 rfl) ?_
    refine lv_aload_n hx hb dX3_months_18 rfl (lv_at hl 0 rfl) ?_
    refine va_get (D := (dC, dI)) (ci := 6) (v := .ref (r0 0 1)) (C := RX3) (T := TX3) (N := 6) hx hb hts (fun w h => List.mem_cons_of_mem _ (gF_2_in h)) hown hM.1 hP 0 rfl rfl 0 (by decide) (hts _ (List.mem_cons_of_mem _ mw1007)) (fun _ h9 => h9) rfl dX3_months_19 ?_
    refine lv_iload_n hx hb dX3_months_22 rfl (lv_at hl 1 rfl) ?_
    refine kz_aald (v := r0 1 p1) hx hb hM.1 hP 1 rfl (by omega) (by decide) rfl dX3_months_23 ?_
    refine kc0 (fun _ q => q) (va_runS (As := [.ref (r0 1 p1)]) (rest := [.int (iZ ((p1 : Nat) : Int)), .ref m0]) ⟨hx, hb, hml, hown, hts⟩ (c_X3_countOf l dC dI dA k _ _ hP (5 + p1) (r0 1 p1) _ (σ 0 p1) (σ 1 p1) (kY_L _ hp1) rfl rfl (by first | omega | (unfold sgn; (try split) <;> omega)) (by first | omega | (unfold sgn; (try split) <;> omega))) (va_cwS 1 hts (kg_S mw1070 mw1071 mw47 rfl mw1072) rfl rfl rfl hdS_X3_countOf ⟨Nat.le_of_ble_eq_true rfl, Nat.le_of_ble_eq_true rfl⟩) ⟨fun a U g mk q => ⟨q.1, q.2.1, kM_call q.2.2⟩, fun U hU hW => ⟨rfl, hU, kM_kept hM hS hAN hU hW⟩⟩ rfl rfl hl.1 rfl (lv_room (Nat.le_of_ble_eq_true rfl)) dX3_months_24 ⟨Nat.le_of_ble_eq_true rfl, Nat.le_of_ble_eq_true rfl⟩) ?_
    refine lv_iload_n hx hb dX3_months_27 rfl (lv_at hl 2 rfl) ?_
    refine kz_i2l hx hb (by first | omega | (unfold sgn; (try split) <;> omega)) dX3_months_28 ?_
    refine lv_iload_n hx hb dX3_months_29 rfl (lv_at hl 3 rfl) ?_
    refine kc0 (fun _ q => q) (va_runS (As := [.long (lZ (mm)), .int (iZ (bZ (bb)))]) (rest := [.long (lZ (cnt ((σ 0 p1)) ((σ 1 p1)))), .int (iZ ((p1 : Nat) : Int)), .ref m0]) ⟨hx, hb, hml, hown, hts⟩ (c_X3_signed l _ (mm) (bb)) (va_cwS 2 hts (kg_S mw1073 mw1074 mw47 rfl mw1075) rfl rfl rfl hdS_X3_signed ⟨Nat.le_of_ble_eq_true rfl, Nat.le_of_ble_eq_true rfl⟩) ⟨fun a U g mk q => q, fun U hU hW => ⟨rfl, hU⟩⟩ rfl rfl hl.1 rfl (lv_room (Nat.le_of_ble_eq_true rfl)) dX3_months_30 ⟨Nat.le_of_ble_eq_true rfl, Nat.le_of_ble_eq_true rfl⟩) ?_
    refine kz_ladd hx hb dX3_months_33 ?_
    refine kc2 (va_runV (As := [.int (iZ ((p1 : Nat) : Int)), .long (lZ ((cnt ((σ 0 p1)) ((σ 1 p1))) + (sgn ((mm)) ((bb)))))]) (rest := []) ⟨hx, hb, hml, hown, hts⟩ (c_X3_putCount l dC dI dA k m0 (r0) (σ) (0) _ (va_Pl hP) hr hOK p1 (((cnt ((σ 0 p1)) ((σ 1 p1))) + (sgn ((mm)) ((bb))))) hp1 (by first | omega | (unfold sgn; (try split) <;> omega))) (cwV 2 hts (kg_V mw1076 mw1077 mw30 mw47 rfl mw1078) rfl rfl rfl hdV_X3_putCount ⟨Nat.le_of_ble_eq_true rfl, Nat.le_of_ble_eq_true rfl⟩) ⟨fun a U g mk q => ⟨q.1, q.2.1, kM_call q.2.2⟩, va_recv hM.1 hP (ci := 6) (q0 := 0) rfl rfl, fun U hU hW => ⟨rfl, hU, kM_kept hM hS hAN hU hW⟩⟩ rfl rfl hl.1 rfl (lv_room (Nat.le_of_ble_eq_true rfl)) dX3_months_34 ⟨Nat.le_of_ble_eq_true rfl, Nat.le_of_ble_eq_true rfl⟩) hS (fun a _ h => kAy_tr hrA hS.1 a h) (fun a h => kAy_tr hrA hS.1 a h) (fun H locs hG hz9 hk9 hS9 => ?_)
    obtain ⟨r_2, hr, hrA9, hP⟩ := hG
    have hrA := kAy_tr2 hrA hS.1 hrA9
    have hS := hS9
    have hP : va_P (dC, dI) vwCl (kY dA m0 r_2 (putLs σ p1 ((((cnt ((σ 0 p1)) ((σ 1 p1))) + (sgn ((mm)) ((bb))))))) (0) ++ ([] : va_W)) _ := hP
    have hD : va_D (kAy m0 r0 s.heap.size) (kY dA m0 r_2 (putLs σ p1 ((((cnt ((σ 0 p1)) ((σ 1 p1))) + (sgn ((mm)) ((bb))))))) (0) ++ ([] : va_W)) := by rw [← kap]; exact kYD_A hr hrA
    refine W.widen (k := 1) (n := 2) (Nat.le_of_ble_eq_true rfl) (Nat.le_of_ble_eq_true rfl) ?_
    exact W.iret (v := iZ (putLr ((((cnt ((σ 0 p1)) ((σ 1 p1))) + (sgn ((mm)) ((bb)))))))) hx hb hr9 (fun t ht hW => ⟨⟨congrArg (fun z : Int => Outcome.returned (some (Value.int (iZ z)))) (show (putLr ((((cnt ((σ 0 p1)) ((σ 1 p1))) + (sgn ((mm)) ((bb))))))) = (if ex2 (!inb ((p1 : Nat) : Int) 0 3) (false) = 0 then (putLr (cnt (σ 0 p1) (σ 1 p1) + sgn mm bb)) else 0) from by rw [if_pos hZ]; done), gY_cast ⟨r_2, hr, hrA, by rw [ht]; exact va_Pl hP⟩ (show (putLs σ p1 ((((cnt ((σ 0 p1)) ((σ 1 p1))) + (sgn ((mm)) ((bb))))))) = (if ex2 (!inb ((p1 : Nat) : Int) 0 3) (false) = 0 then (putLs σ p1 (cnt (σ 0 p1) (σ 1 p1) + sgn mm bb)) else σ) from by rw [if_pos hZ]; done) (show (0) = ex2 (!inb ((p1 : Nat) : Int) 0 3) (false) from hZ.symm)⟩, hS.F ht⟩) hS.2.2 dX3_months_37
  · have hX : ex2 (!inb z1 0 3) (false) = ex2 (!inb ((z1)) 0 3) false := by first | rfl | simp only [Bool.true_or, Bool.or_true, Bool.false_or, Bool.or_false, Bool.not_true, Bool.not_false]
    have hN : ¬ ex2 (!inb z1 0 3) (false) = 0 := kf_ne hX c_1
    refine lv_iconst (v := iZ 0) hx hb dX3_months_12 rfl ?_
    refine lv_goto (tgt := 37) hx hb dX3_months_13 (by decide) ?_
    refine W.widen (k := 1) (n := 2) (Nat.le_of_ble_eq_true rfl) (Nat.le_of_ble_eq_true rfl) ?_
    exact W.iret (v := iZ 0) hx hb hr9 (fun t ht hW => ⟨⟨congrArg (fun z : Int => Outcome.returned (some (Value.int (iZ z)))) (show 0 = (if ex2 (!inb z1 0 3) (false) = 0 then (putLr (cnt (σ 0 (z1.toNat)) (σ 1 (z1.toNat)) + sgn mm bb)) else 0) from by rw [if_neg hN]), gY_cast ⟨r0, hr, hrA, by rw [ht]; exact va_Pl hP⟩ (show (σ) = (if ex2 (!inb z1 0 3) (false) = 0 then (putLs σ (z1.toNat) (cnt (σ 0 (z1.toNat)) (σ 1 (z1.toNat)) + sgn mm bb)) else σ) from by rw [if_neg hN]) (show (ex2 ((!inb ((z1)) 0 3)) false) = ex2 (!inb z1 0 3) (false) from hX.symm)⟩, hS.F ht⟩) hS.2.2 dX3_months_37

abbrev ww_X3_years : List Cond := .code yX3_years cX3_years 4 (some .int) :: gT
set_option maxHeartbeats 4000000 in
set_option maxRecDepth 100000 in
theorem c_X3_years (l : Launch) (dC : Nat → ClassId) (dI : Nat → Nat → Nat) (dA : Nat → ClassId) (k : Nat → Nat) (m0 : Nat) (r0 : Nat → Nat → Nat) (σ : Nat → Nat → Int) (th : Int) (H0 : Heap) (hP : va_P (dC, dI) vwCl (kY dA m0 r0 σ th) H0) (hr : kRI m0 r0 k) (hOK : kOK σ) (z1 : Int) (mm : Int) (bb : Bool) (rz1 : -2147483648 ≤ z1 ∧ z1 < 2147483648) (rmm : -2147483648 ≤ mm ∧ mm < 2147483648) : Met l yX3_years ww_X3_years ({ frames := 6, cells := 1, slots := 2, locals := 134 }) (va_Pc [.ref m0, .int (iZ z1), .int (iZ mm), .int (iZ (bZ (bb)))] (fun U => U.heap = H0 ∧ kM dC dI dA k U)) (kQ2 (some (.int (iZ (if ex2 (!inb z1 0 3) (false) = 0 then (putLr (cnt (σ 0 (z1.toNat)) (σ 1 (z1.toNat)) + sgn (12 * mm) bb)) else 0)))) (gY dC dI dA k m0 r0 H0.size (if ex2 (!inb z1 0 3) (false) = 0 then (putLs σ (z1.toNat) (cnt (σ 0 (z1.toNat)) (σ 1 (z1.toNat)) + sgn (12 * mm) bb)) else σ) (ex2 (!inb z1 0 3) (false))) (kAy m0 r0 H0.size)) 1 2 (kAy m0 r0 H0.size) := by
  refine Met.ofW (cc := cX3_years) (maxL := 4) (ret := (some .int)) (by decide) rfl ?_
  intro p e s m args below meth c s₁ B hml hv
  obtain ⟨rfl, hH, hM⟩ := hv
  subst hH
  have hr0 := hr
  have hAN : ∀ a, kAy m0 r0 s.heap.size a → k 0 ≤ a := fun a h => kAy_N hr0 hM.2.1.1 a h
  have hrA : ∀ i : Nat, i < 17 → kAy m0 r0 s.heap.size (kR m0 r0 i) := fun i hi => Or.inl ⟨i, hi, rfl⟩
  have hD : va_D (kAy m0 r0 s.heap.size) (kY dA m0 r0 σ (th) ++ ([] : va_W)) := by rw [← kap]; exact kYD_A hr hrA
  have hP : va_P (dC, dI) vwCl (kY dA m0 r0 σ (th) ++ ([] : va_W)) s.heap := hP
  have hS : va_S (kAy m0 r0 s.heap.size) s.heap s.heap [] := va_S.rf
  have hx := B.exec
  have hb := B.bytes
  have hr9 := B.returns
  have hts := atoms_spec (ws := ww_X3_years) B.pre
  have hown : s.vm.findClass RX3 = some m.cls := findClass_of_methodNamed B.named
  have hlocks := B.notSynchronized
  have hl := lv_entry ([.ref m0, .int (iZ z1), .int (iZ mm), .int (iZ (bZ (bb)))]) (n := 4) (Nat.le_of_ble_eq_true rfl)
  rw [lg_entry_eq]
  generalize (lg_sl ([.ref m0, .int (iZ z1), .int (iZ mm), .int (iZ (bZ (bb)))]) ++ List.replicate (4 - (lg_sl ([.ref m0, .int (iZ z1), .int (iZ mm), .int (iZ (bZ (bb)))])).length) Slot.unset).toArray = ls at hl ⊢
  have hl : lv_has ls 4 [(0, .ref m0), (1, .int (iZ z1)), (2, .int (iZ mm)), (3, .int (iZ (bZ (bb))))] := hl
  refine lv_aload_n hx hb dX3_years_0 rfl (lv_at hl 0 rfl) ?_
  refine lv_iload_n hx hb dX3_years_1 rfl (lv_at hl 1 rfl) ?_
  refine kc0 (fun _ q => q) (va_runS (As := [.int (iZ z1)]) (rest := [.ref m0]) ⟨hx, hb, hml, hown, hts⟩ (c_X3_isNo l _ (z1) (by first | omega | (unfold sgn; (try split) <;> omega))) (va_cwS 1 hts (kg_S mw1021 mw1022 mw47 rfl mw1023) rfl rfl rfl hdS_X3_isNo ⟨Nat.le_of_ble_eq_true rfl, Nat.le_of_ble_eq_true rfl⟩) ⟨fun a U g mk q => q, fun U hU hW => ⟨rfl, hU⟩⟩ rfl rfl hl.1 rfl (lv_room (Nat.le_of_ble_eq_true rfl)) dX3_years_2 ⟨Nat.le_of_ble_eq_true rfl, Nat.le_of_ble_eq_true rfl⟩) ?_
  refine lv_iconst (v := iZ 0) hx hb dX3_years_5 rfl ?_
  refine kc2 (va_runV (As := [.int (iZ (bZ (!inb ((z1)) 0 3))), .int (iZ (bZ false))]) (rest := []) ⟨hx, hb, hml, hown, hts⟩ (c_X3_fails l dC dI dA k m0 (r0) (σ) (th) _ (va_Pl hP) hr hOK (!inb ((z1)) 0 3) false ) (cwV 2 hts (kg_V mw1037 mw1038 mw27 mw47 rfl mw1039) rfl rfl rfl hdV_X3_fails ⟨Nat.le_of_ble_eq_true rfl, Nat.le_of_ble_eq_true rfl⟩) ⟨fun a U g mk q => ⟨q.1, q.2.1, kM_call q.2.2⟩, va_recv hM.1 hP (ci := 6) (q0 := 0) rfl rfl, fun U hU hW => ⟨rfl, hU, kM_kept hM hS hAN hU hW⟩⟩ rfl rfl hl.1 rfl (lv_room (Nat.le_of_ble_eq_true rfl)) dX3_years_6 ⟨Nat.le_of_ble_eq_true rfl, Nat.le_of_ble_eq_true rfl⟩) hS (fun a _ h => kAy_tr hrA hS.1 a h) (fun a h => kAy_tr hrA hS.1 a h) (fun H locs hP9 hz9 hk9 hS => ?_)
  have hP : va_P (dC, dI) vwCl (kY dA m0 r0 σ (ex2 ((!inb ((z1)) 0 3)) false) ++ ([] : va_W)) _ := hP9
  have hD : va_D (kAy m0 r0 s.heap.size) (kY dA m0 r0 σ (ex2 ((!inb ((z1)) 0 3)) false) ++ ([] : va_W)) := by rw [← kap]; exact kYD_A hr hrA
  refine kz_ifb_eq (tgt := 16) hx hb  dX3_years_9 (by decide) (fun c_1 => ?_) (fun c_1 => ?_)
  · have hX : ex2 (!inb z1 0 3) (false) = ex2 (!inb ((z1)) 0 3) false := by first | rfl | simp only [Bool.true_or, Bool.or_true, Bool.false_or, Bool.or_false, Bool.not_true, Bool.not_false]
    have hZ : ex2 (!inb z1 0 3) (false) = 0 := kf_eq hX c_1
    obtain ⟨hA9, hB9⟩ := ex2_z hZ
    simp only [Bool.or_eq_false_iff, Bool.not_eq_false', Bool.not_eq_true', inb, decide_eq_true_eq, decide_eq_false_iff_not, noThing_niff] at hA9
    obtain ⟨p1, hp1, rfl⟩ : ∃ p1 : Nat, p1 < 4 ∧ z1 = (p1 : Int) := ⟨z1.toNat, by omega, by omega⟩
    have o_p1 := kOKr hOK hp1
    have l_p1 := mlen_rng (leap (σ 0 p1)) (σ 1 p1)
    have n_p1 := dnum_rng (y := σ 5 p1) (m := σ 6 p1) (d := σ 7 p1) (by omega) (by omega) (by omega)
    have hP := kY0 hP (kf_e c_1)
    have hD := kD0 hD (kf_e c_1)
    refine lv_aload_n hx hb dX3_years_16 rfl (lv_at hl 0 rfl) ?_
    refine lv_iload_n hx hb dX3_years_17 rfl (lv_at hl 1 rfl) ?_
    refine lv_aload_n hx hb dX3_years_18 rfl (lv_at hl 0 rfl) ?_
    refine va_get (D := (dC, dI)) (ci := 6) (v := .ref (r0 0 1)) (C := RX3) (T := TX3) (N := 6) hx hb hts (fun w h => List.mem_cons_of_mem _ (gF_2_in h)) hown hM.1 hP 0 rfl rfl 0 (by decide) (hts _ (List.mem_cons_of_mem _ mw1007)) (fun _ h9 => h9) rfl dX3_years_19 ?_
    refine lv_iload_n hx hb dX3_years_22 rfl (lv_at hl 1 rfl) ?_
    refine kz_aald (v := r0 1 p1) hx hb hM.1 hP 1 rfl (by omega) (by decide) rfl dX3_years_23 ?_
    refine kc0 (fun _ q => q) (va_runS (As := [.ref (r0 1 p1)]) (rest := [.int (iZ ((p1 : Nat) : Int)), .ref m0]) ⟨hx, hb, hml, hown, hts⟩ (c_X3_countOf l dC dI dA k _ _ hP (5 + p1) (r0 1 p1) _ (σ 0 p1) (σ 1 p1) (kY_L _ hp1) rfl rfl (by first | omega | (unfold sgn; (try split) <;> omega)) (by first | omega | (unfold sgn; (try split) <;> omega))) (va_cwS 1 hts (kg_S mw1070 mw1071 mw47 rfl mw1072) rfl rfl rfl hdS_X3_countOf ⟨Nat.le_of_ble_eq_true rfl, Nat.le_of_ble_eq_true rfl⟩) ⟨fun a U g mk q => ⟨q.1, q.2.1, kM_call q.2.2⟩, fun U hU hW => ⟨rfl, hU, kM_kept hM hS hAN hU hW⟩⟩ rfl rfl hl.1 rfl (lv_room (Nat.le_of_ble_eq_true rfl)) dX3_years_24 ⟨Nat.le_of_ble_eq_true rfl, Nat.le_of_ble_eq_true rfl⟩) ?_
    refine lv_ldc2 (v := lZ 12) hx hb hown (hts _ (List.mem_cons_of_mem _ mw1036)) dX3_years_27 ?_
    refine lv_iload_n hx hb dX3_years_30 rfl (lv_at hl 2 rfl) ?_
    refine kz_i2l hx hb (by first | omega | (unfold sgn; (try split) <;> omega)) dX3_years_31 ?_
    refine lv_iload_n hx hb dX3_years_32 rfl (lv_at hl 3 rfl) ?_
    refine kc0 (fun _ q => q) (va_runS (As := [.long (lZ (mm)), .int (iZ (bZ (bb)))]) (rest := [.long (lZ (12)), .long (lZ (cnt ((σ 0 p1)) ((σ 1 p1)))), .int (iZ ((p1 : Nat) : Int)), .ref m0]) ⟨hx, hb, hml, hown, hts⟩ (c_X3_signed l _ (mm) (bb)) (va_cwS 2 hts (kg_S mw1073 mw1074 mw47 rfl mw1075) rfl rfl rfl hdS_X3_signed ⟨Nat.le_of_ble_eq_true rfl, Nat.le_of_ble_eq_true rfl⟩) ⟨fun a U g mk q => q, fun U hU hW => ⟨rfl, hU⟩⟩ rfl rfl hl.1 rfl (lv_room (Nat.le_of_ble_eq_true rfl)) dX3_years_33 ⟨Nat.le_of_ble_eq_true rfl, Nat.le_of_ble_eq_true rfl⟩) ?_
    refine kz_lmul hx hb dX3_years_36 ?_
    refine kz_ladd hx hb dX3_years_37 ?_
    refine kc2 (va_runV (As := [.int (iZ ((p1 : Nat) : Int)), .long (lZ ((cnt ((σ 0 p1)) ((σ 1 p1))) + (12 * (sgn ((mm)) ((bb))))))]) (rest := []) ⟨hx, hb, hml, hown, hts⟩ (c_X3_putCount l dC dI dA k m0 (r0) (σ) (0) _ (va_Pl hP) hr hOK p1 (((cnt ((σ 0 p1)) ((σ 1 p1))) + (12 * (sgn ((mm)) ((bb)))))) hp1 (by first | omega | (unfold sgn; (try split) <;> omega))) (cwV 2 hts (kg_V mw1076 mw1077 mw30 mw47 rfl mw1078) rfl rfl rfl hdV_X3_putCount ⟨Nat.le_of_ble_eq_true rfl, Nat.le_of_ble_eq_true rfl⟩) ⟨fun a U g mk q => ⟨q.1, q.2.1, kM_call q.2.2⟩, va_recv hM.1 hP (ci := 6) (q0 := 0) rfl rfl, fun U hU hW => ⟨rfl, hU, kM_kept hM hS hAN hU hW⟩⟩ rfl rfl hl.1 rfl (lv_room (Nat.le_of_ble_eq_true rfl)) dX3_years_38 ⟨Nat.le_of_ble_eq_true rfl, Nat.le_of_ble_eq_true rfl⟩) hS (fun a _ h => kAy_tr hrA hS.1 a h) (fun a h => kAy_tr hrA hS.1 a h) (fun H locs hG hz9 hk9 hS9 => ?_)
    obtain ⟨r_2, hr, hrA9, hP⟩ := hG
    have hrA := kAy_tr2 hrA hS.1 hrA9
    have hS := hS9
    have hP : va_P (dC, dI) vwCl (kY dA m0 r_2 (putLs σ p1 ((((cnt ((σ 0 p1)) ((σ 1 p1))) + (12 * (sgn ((mm)) ((bb)))))))) (0) ++ ([] : va_W)) _ := hP
    have hD : va_D (kAy m0 r0 s.heap.size) (kY dA m0 r_2 (putLs σ p1 ((((cnt ((σ 0 p1)) ((σ 1 p1))) + (12 * (sgn ((mm)) ((bb)))))))) (0) ++ ([] : va_W)) := by rw [← kap]; exact kYD_A hr hrA
    refine W.widen (k := 1) (n := 2) (Nat.le_of_ble_eq_true rfl) (Nat.le_of_ble_eq_true rfl) ?_
    exact W.iret (v := iZ (putLr ((((cnt ((σ 0 p1)) ((σ 1 p1))) + (12 * (sgn ((mm)) ((bb))))))))) hx hb hr9 (fun t ht hW => ⟨⟨congrArg (fun z : Int => Outcome.returned (some (Value.int (iZ z)))) (show (putLr ((((cnt ((σ 0 p1)) ((σ 1 p1))) + (12 * (sgn ((mm)) ((bb)))))))) = (if ex2 (!inb ((p1 : Nat) : Int) 0 3) (false) = 0 then (putLr (cnt (σ 0 p1) (σ 1 p1) + sgn (12 * mm) bb)) else 0) from by rw [if_pos hZ]; rw [show sgn (12 * mm) bb = 12 * sgn mm bb from by unfold sgn; split <;> omega]), gY_cast ⟨r_2, hr, hrA, by rw [ht]; exact va_Pl hP⟩ (show (putLs σ p1 ((((cnt ((σ 0 p1)) ((σ 1 p1))) + (12 * (sgn ((mm)) ((bb)))))))) = (if ex2 (!inb ((p1 : Nat) : Int) 0 3) (false) = 0 then (putLs σ p1 (cnt (σ 0 p1) (σ 1 p1) + sgn (12 * mm) bb)) else σ) from by rw [if_pos hZ]; rw [show sgn (12 * mm) bb = 12 * sgn mm bb from by unfold sgn; split <;> omega]) (show (0) = ex2 (!inb ((p1 : Nat) : Int) 0 3) (false) from hZ.symm)⟩, hS.F ht⟩) hS.2.2 dX3_years_41
  · have hX : ex2 (!inb z1 0 3) (false) = ex2 (!inb ((z1)) 0 3) false := by first | rfl | simp only [Bool.true_or, Bool.or_true, Bool.false_or, Bool.or_false, Bool.not_true, Bool.not_false]
    have hN : ¬ ex2 (!inb z1 0 3) (false) = 0 := kf_ne hX c_1
    refine lv_iconst (v := iZ 0) hx hb dX3_years_12 rfl ?_
    refine lv_goto (tgt := 41) hx hb dX3_years_13 (by decide) ?_
    refine W.widen (k := 1) (n := 2) (Nat.le_of_ble_eq_true rfl) (Nat.le_of_ble_eq_true rfl) ?_
    exact W.iret (v := iZ 0) hx hb hr9 (fun t ht hW => ⟨⟨congrArg (fun z : Int => Outcome.returned (some (Value.int (iZ z)))) (show 0 = (if ex2 (!inb z1 0 3) (false) = 0 then (putLr (cnt (σ 0 (z1.toNat)) (σ 1 (z1.toNat)) + sgn (12 * mm) bb)) else 0) from by rw [if_neg hN]), gY_cast ⟨r0, hr, hrA, by rw [ht]; exact va_Pl hP⟩ (show (σ) = (if ex2 (!inb z1 0 3) (false) = 0 then (putLs σ (z1.toNat) (cnt (σ 0 (z1.toNat)) (σ 1 (z1.toNat)) + sgn (12 * mm) bb)) else σ) from by rw [if_neg hN]) (show (ex2 ((!inb ((z1)) 0 3)) false) = ex2 (!inb z1 0 3) (false) from hX.symm)⟩, hS.F ht⟩) hS.2.2 dX3_years_41

abbrev ww_X3_units : List Cond := .code yX3_units cX3_units 5 (some .int) :: gT
set_option maxHeartbeats 4000000 in
set_option maxRecDepth 100000 in
theorem c_X3_units (l : Launch) (dC : Nat → ClassId) (dI : Nat → Nat → Nat) (dA : Nat → ClassId) (k : Nat → Nat) (m0 : Nat) (r0 : Nat → Nat → Nat) (σ : Nat → Nat → Int) (th : Int) (H0 : Heap) (hP : va_P (dC, dI) vwCl (kY dA m0 r0 σ th) H0) (hr : kRI m0 r0 k) (hOK : kOK σ) (z1 : Int) (uu : Int) (mm : Int) (bb : Bool) (rz1 : -2147483648 ≤ z1 ∧ z1 < 2147483648) (ruu : -2147483648 ≤ uu ∧ uu < 2147483648) (rmm : -2147483648 ≤ mm ∧ mm < 2147483648) : Met l yX3_units ww_X3_units ({ frames := 6, cells := 1, slots := 2, locals := 134 }) (va_Pc [.ref m0, .int (iZ z1), .int (iZ uu), .int (iZ mm), .int (iZ (bZ (bb)))] (fun U => U.heap = H0 ∧ kM dC dI dA k U)) (kQ2 (some (.int (iZ (if ex2 (!inb z1 0 3) (!inb uu 0 4) = 0 then (putLr (cnt (σ 0 (z1.toNat)) (σ 1 (z1.toNat)) + sgn (mm * usize uu) bb)) else 0)))) (gY dC dI dA k m0 r0 H0.size (if ex2 (!inb z1 0 3) (!inb uu 0 4) = 0 then (putLs σ (z1.toNat) (cnt (σ 0 (z1.toNat)) (σ 1 (z1.toNat)) + sgn (mm * usize uu) bb)) else σ) (ex2 (!inb z1 0 3) (!inb uu 0 4))) (kAy m0 r0 H0.size)) 1 2 (kAy m0 r0 H0.size) := by
  refine Met.ofW (cc := cX3_units) (maxL := 5) (ret := (some .int)) (by decide) rfl ?_
  intro p e s m args below meth c s₁ B hml hv
  obtain ⟨rfl, hH, hM⟩ := hv
  subst hH
  have hr0 := hr
  have hAN : ∀ a, kAy m0 r0 s.heap.size a → k 0 ≤ a := fun a h => kAy_N hr0 hM.2.1.1 a h
  have hrA : ∀ i : Nat, i < 17 → kAy m0 r0 s.heap.size (kR m0 r0 i) := fun i hi => Or.inl ⟨i, hi, rfl⟩
  have hD : va_D (kAy m0 r0 s.heap.size) (kY dA m0 r0 σ (th) ++ ([] : va_W)) := by rw [← kap]; exact kYD_A hr hrA
  have hP : va_P (dC, dI) vwCl (kY dA m0 r0 σ (th) ++ ([] : va_W)) s.heap := hP
  have hS : va_S (kAy m0 r0 s.heap.size) s.heap s.heap [] := va_S.rf
  have hx := B.exec
  have hb := B.bytes
  have hr9 := B.returns
  have hts := atoms_spec (ws := ww_X3_units) B.pre
  have hown : s.vm.findClass RX3 = some m.cls := findClass_of_methodNamed B.named
  have hlocks := B.notSynchronized
  have hl := lv_entry ([.ref m0, .int (iZ z1), .int (iZ uu), .int (iZ mm), .int (iZ (bZ (bb)))]) (n := 5) (Nat.le_of_ble_eq_true rfl)
  rw [lg_entry_eq]
  generalize (lg_sl ([.ref m0, .int (iZ z1), .int (iZ uu), .int (iZ mm), .int (iZ (bZ (bb)))]) ++ List.replicate (5 - (lg_sl ([.ref m0, .int (iZ z1), .int (iZ uu), .int (iZ mm), .int (iZ (bZ (bb)))])).length) Slot.unset).toArray = ls at hl ⊢
  have hl : lv_has ls 5 [(0, .ref m0), (1, .int (iZ z1)), (2, .int (iZ uu)), (3, .int (iZ mm)), (4, .int (iZ (bZ (bb))))] := hl
  refine lv_aload_n hx hb dX3_units_0 rfl (lv_at hl 0 rfl) ?_
  refine lv_iload_n hx hb dX3_units_1 rfl (lv_at hl 1 rfl) ?_
  refine kc0 (fun _ q => q) (va_runS (As := [.int (iZ z1)]) (rest := [.ref m0]) ⟨hx, hb, hml, hown, hts⟩ (c_X3_isNo l _ (z1) (by first | omega | (have := usize_rng uu; first | omega | (have := ksg_u (u := uu) (b := bb) rmm; omega)))) (va_cwS 1 hts (kg_S mw1021 mw1022 mw47 rfl mw1023) rfl rfl rfl hdS_X3_isNo ⟨Nat.le_of_ble_eq_true rfl, Nat.le_of_ble_eq_true rfl⟩) ⟨fun a U g mk q => q, fun U hU hW => ⟨rfl, hU⟩⟩ rfl rfl hl.1 rfl (lv_room (Nat.le_of_ble_eq_true rfl)) dX3_units_2 ⟨Nat.le_of_ble_eq_true rfl, Nat.le_of_ble_eq_true rfl⟩) ?_
  refine lv_iload_n hx hb dX3_units_5 rfl (lv_at hl 2 rfl) ?_
  refine kz_i2l hx hb (by first | omega | (have := usize_rng uu; first | omega | (have := ksg_u (u := uu) (b := bb) rmm; omega))) dX3_units_6 ?_
  refine lv_lconst (v := lZ 0) hx hb dX3_units_7 rfl ?_
  refine lv_ldc2 (v := lZ 4) hx hb hown (hts _ (List.mem_cons_of_mem _ mw1090)) dX3_units_8 ?_
  refine kc0 (fun _ q => q) (va_runS (As := [.long (lZ (uu)), .long (lZ (0)), .long (lZ (4))]) (rest := [.int (iZ (bZ (!inb ((z1)) 0 3))), .ref m0]) ⟨hx, hb, hml, hown, hts⟩ (c_X3_isIn l _ (uu) (0) (4) (by first | omega | (have := usize_rng uu; first | omega | (have := ksg_u (u := uu) (b := bb) rmm; omega))) (by first | omega | (have := usize_rng uu; first | omega | (have := ksg_u (u := uu) (b := bb) rmm; omega))) (by first | omega | (have := usize_rng uu; first | omega | (have := ksg_u (u := uu) (b := bb) rmm; omega)))) (va_cwS 3 hts (kg_S mw1025 mw1026 mw47 rfl mw1027) rfl rfl rfl hdS_X3_isIn ⟨Nat.le_of_ble_eq_true rfl, Nat.le_of_ble_eq_true rfl⟩) ⟨fun a U g mk q => q, fun U hU hW => ⟨rfl, hU⟩⟩ rfl rfl hl.1 rfl (lv_room (Nat.le_of_ble_eq_true rfl)) dX3_units_11 ⟨Nat.le_of_ble_eq_true rfl, Nat.le_of_ble_eq_true rfl⟩) ?_
  refine kz_ifb_ne (tgt := 21) hx hb  dX3_units_14 (by decide) (fun c_1 => ?_) (fun c_1 => ?_)
  · refine lv_iconst (v := iZ 0) hx hb dX3_units_21 rfl ?_
    refine kc2 (va_runV (As := [.int (iZ (bZ (!inb ((z1)) 0 3))), .int (iZ (bZ false))]) (rest := []) ⟨hx, hb, hml, hown, hts⟩ (c_X3_fails l dC dI dA k m0 (r0) (σ) (th) _ (va_Pl hP) hr hOK (!inb ((z1)) 0 3) false ) (cwV 2 hts (kg_V mw1037 mw1038 mw27 mw47 rfl mw1039) rfl rfl rfl hdV_X3_fails ⟨Nat.le_of_ble_eq_true rfl, Nat.le_of_ble_eq_true rfl⟩) ⟨fun a U g mk q => ⟨q.1, q.2.1, kM_call q.2.2⟩, va_recv hM.1 hP (ci := 6) (q0 := 0) rfl rfl, fun U hU hW => ⟨rfl, hU, kM_kept hM hS hAN hU hW⟩⟩ rfl rfl hl.1 rfl (lv_room (Nat.le_of_ble_eq_true rfl)) dX3_units_22 ⟨Nat.le_of_ble_eq_true rfl, Nat.le_of_ble_eq_true rfl⟩) hS (fun a _ h => kAy_tr hrA hS.1 a h) (fun a h => kAy_tr hrA hS.1 a h) (fun H locs hP9 hz9 hk9 hS => ?_)
    have hP : va_P (dC, dI) vwCl (kY dA m0 r0 σ (ex2 ((!inb ((z1)) 0 3)) false) ++ ([] : va_W)) _ := hP9
    have hD : va_D (kAy m0 r0 s.heap.size) (kY dA m0 r0 σ (ex2 ((!inb ((z1)) 0 3)) false) ++ ([] : va_W)) := by rw [← kap]; exact kYD_A hr hrA
    refine kz_ifb_eq (tgt := 32) hx hb  dX3_units_25 (by decide) (fun c_2 => ?_) (fun c_2 => ?_)
    · have hX : ex2 (!inb z1 0 3) (!inb uu 0 4) = ex2 (!inb ((z1)) 0 3) false := by first | rfl | simp only [c_1, Bool.true_or, Bool.or_true, Bool.false_or, Bool.or_false, Bool.not_true, Bool.not_false]
      have hZ : ex2 (!inb z1 0 3) (!inb uu 0 4) = 0 := kf_eq hX c_2
      obtain ⟨hA9, hB9⟩ := ex2_z hZ
      simp only [Bool.or_eq_false_iff, Bool.not_eq_false', Bool.not_eq_true', inb, decide_eq_true_eq, decide_eq_false_iff_not, noThing_niff] at hA9
      simp only [Bool.or_eq_false_iff, Bool.not_eq_false', Bool.not_eq_true', inb, decide_eq_true_eq, decide_eq_false_iff_not, noThing_niff] at hB9
      obtain ⟨p1, hp1, rfl⟩ : ∃ p1 : Nat, p1 < 4 ∧ z1 = (p1 : Int) := ⟨z1.toNat, by omega, by omega⟩
      have o_p1 := kOKr hOK hp1
      have l_p1 := mlen_rng (leap (σ 0 p1)) (σ 1 p1)
      have n_p1 := dnum_rng (y := σ 5 p1) (m := σ 6 p1) (d := σ 7 p1) (by omega) (by omega) (by omega)
      have hP := kY0 hP (kf_e c_2)
      have hD := kD0 hD (kf_e c_2)
      refine lv_aload_n hx hb dX3_units_32 rfl (lv_at hl 0 rfl) ?_
      refine lv_iload_n hx hb dX3_units_33 rfl (lv_at hl 1 rfl) ?_
      refine lv_aload_n hx hb dX3_units_34 rfl (lv_at hl 0 rfl) ?_
      refine va_get (D := (dC, dI)) (ci := 6) (v := .ref (r0 0 1)) (C := RX3) (T := TX3) (N := 6) hx hb hts (fun w h => List.mem_cons_of_mem _ (gF_2_in h)) hown hM.1 hP 0 rfl rfl 0 (by decide) (hts _ (List.mem_cons_of_mem _ mw1007)) (fun _ h9 => h9) rfl dX3_units_35 ?_
      refine lv_iload_n hx hb dX3_units_38 rfl (lv_at hl 1 rfl) ?_
      refine kz_aald (v := r0 1 p1) hx hb hM.1 hP 1 rfl (by omega) (by decide) rfl dX3_units_39 ?_
      refine kc0 (fun _ q => q) (va_runS (As := [.ref (r0 1 p1)]) (rest := [.int (iZ ((p1 : Nat) : Int)), .ref m0]) ⟨hx, hb, hml, hown, hts⟩ (c_X3_countOf l dC dI dA k _ _ hP (5 + p1) (r0 1 p1) _ (σ 0 p1) (σ 1 p1) (kY_L _ hp1) rfl rfl (by first | omega | (have := usize_rng uu; first | omega | (have := ksg_u (u := uu) (b := bb) rmm; omega))) (by first | omega | (have := usize_rng uu; first | omega | (have := ksg_u (u := uu) (b := bb) rmm; omega)))) (va_cwS 1 hts (kg_S mw1070 mw1071 mw47 rfl mw1072) rfl rfl rfl hdS_X3_countOf ⟨Nat.le_of_ble_eq_true rfl, Nat.le_of_ble_eq_true rfl⟩) ⟨fun a U g mk q => ⟨q.1, q.2.1, kM_call q.2.2⟩, fun U hU hW => ⟨rfl, hU, kM_kept hM hS hAN hU hW⟩⟩ rfl rfl hl.1 rfl (lv_room (Nat.le_of_ble_eq_true rfl)) dX3_units_40 ⟨Nat.le_of_ble_eq_true rfl, Nat.le_of_ble_eq_true rfl⟩) ?_
      refine va_gets (v := .ref (k 4)) hx hb hM.2.1.2.2.2.2.2.2.2.1 (kSN hS hAN) hown (hts _ (List.mem_cons_of_mem _ mw1091)) (fun _ h9 => h9) dX3_units_43 ?_
      refine lv_iload_n hx hb dX3_units_46 rfl (lv_at hl 2 rfl) ?_
      refine kz_ti (v := usize uu) hx hb hM.2.1.2.2.2.2.2.2.2.2.1 (kSN hS hAN) (by first | omega | (have := usize_rng uu; first | omega | (have := ksg_u (u := uu) (b := bb) rmm; omega))) (by decide) (by unfold usize; (repeat' split) <;> simp_all <;> omega) dX3_units_47 ?_
      refine kz_i2l hx hb (by first | omega | (have := usize_rng uu; first | omega | (have := ksg_u (u := uu) (b := bb) rmm; omega))) dX3_units_48 ?_
      refine lv_iload_n hx hb dX3_units_49 rfl (lv_at hl 3 rfl) ?_
      refine kz_i2l hx hb (by first | omega | (have := usize_rng uu; first | omega | (have := ksg_u (u := uu) (b := bb) rmm; omega))) dX3_units_50 ?_
      refine lv_iload hx hb dX3_units_51 (lv_at hl 4 rfl) ?_
      refine kc0 (fun _ q => q) (va_runS (As := [.long (lZ (mm)), .int (iZ (bZ (bb)))]) (rest := [.long (lZ ((usize uu))), .long (lZ (cnt ((σ 0 p1)) ((σ 1 p1)))), .int (iZ ((p1 : Nat) : Int)), .ref m0]) ⟨hx, hb, hml, hown, hts⟩ (c_X3_signed l _ (mm) (bb)) (va_cwS 2 hts (kg_S mw1073 mw1074 mw47 rfl mw1075) rfl rfl rfl hdS_X3_signed ⟨Nat.le_of_ble_eq_true rfl, Nat.le_of_ble_eq_true rfl⟩) ⟨fun a U g mk q => q, fun U hU hW => ⟨rfl, hU⟩⟩ rfl rfl hl.1 rfl (lv_room (Nat.le_of_ble_eq_true rfl)) dX3_units_53 ⟨Nat.le_of_ble_eq_true rfl, Nat.le_of_ble_eq_true rfl⟩) ?_
      refine kz_lmul hx hb dX3_units_56 ?_
      refine kz_ladd hx hb dX3_units_57 ?_
      refine kc2 (va_runV (As := [.int (iZ ((p1 : Nat) : Int)), .long (lZ ((cnt ((σ 0 p1)) ((σ 1 p1))) + (((usize uu)) * (sgn ((mm)) ((bb))))))]) (rest := []) ⟨hx, hb, hml, hown, hts⟩ (c_X3_putCount l dC dI dA k m0 (r0) (σ) (0) _ (va_Pl hP) hr hOK p1 (((cnt ((σ 0 p1)) ((σ 1 p1))) + (((usize uu)) * (sgn ((mm)) ((bb)))))) hp1 (by first | omega | (have := usize_rng uu; first | omega | (have := ksg_u (u := uu) (b := bb) rmm; omega)))) (cwV 2 hts (kg_V mw1076 mw1077 mw30 mw47 rfl mw1078) rfl rfl rfl hdV_X3_putCount ⟨Nat.le_of_ble_eq_true rfl, Nat.le_of_ble_eq_true rfl⟩) ⟨fun a U g mk q => ⟨q.1, q.2.1, kM_call q.2.2⟩, va_recv hM.1 hP (ci := 6) (q0 := 0) rfl rfl, fun U hU hW => ⟨rfl, hU, kM_kept hM hS hAN hU hW⟩⟩ rfl rfl hl.1 rfl (lv_room (Nat.le_of_ble_eq_true rfl)) dX3_units_58 ⟨Nat.le_of_ble_eq_true rfl, Nat.le_of_ble_eq_true rfl⟩) hS (fun a _ h => kAy_tr hrA hS.1 a h) (fun a h => kAy_tr hrA hS.1 a h) (fun H locs hG hz9 hk9 hS9 => ?_)
      obtain ⟨r_3, hr, hrA9, hP⟩ := hG
      have hrA := kAy_tr2 hrA hS.1 hrA9
      have hS := hS9
      have hP : va_P (dC, dI) vwCl (kY dA m0 r_3 (putLs σ p1 ((((cnt ((σ 0 p1)) ((σ 1 p1))) + (((usize uu)) * (sgn ((mm)) ((bb)))))))) (0) ++ ([] : va_W)) _ := hP
      have hD : va_D (kAy m0 r0 s.heap.size) (kY dA m0 r_3 (putLs σ p1 ((((cnt ((σ 0 p1)) ((σ 1 p1))) + (((usize uu)) * (sgn ((mm)) ((bb)))))))) (0) ++ ([] : va_W)) := by rw [← kap]; exact kYD_A hr hrA
      refine W.widen (k := 1) (n := 2) (Nat.le_of_ble_eq_true rfl) (Nat.le_of_ble_eq_true rfl) ?_
      exact W.iret (v := iZ (putLr ((((cnt ((σ 0 p1)) ((σ 1 p1))) + (((usize uu)) * (sgn ((mm)) ((bb))))))))) hx hb hr9 (fun t ht hW => ⟨⟨congrArg (fun z : Int => Outcome.returned (some (Value.int (iZ z)))) (show (putLr ((((cnt ((σ 0 p1)) ((σ 1 p1))) + (((usize uu)) * (sgn ((mm)) ((bb)))))))) = (if ex2 (!inb ((p1 : Nat) : Int) 0 3) (!inb uu 0 4) = 0 then (putLr (cnt (σ 0 p1) (σ 1 p1) + sgn (mm * usize uu) bb)) else 0) from by rw [if_pos hZ]; rw [ksg_e]), gY_cast ⟨r_3, hr, hrA, by rw [ht]; exact va_Pl hP⟩ (show (putLs σ p1 ((((cnt ((σ 0 p1)) ((σ 1 p1))) + (((usize uu)) * (sgn ((mm)) ((bb)))))))) = (if ex2 (!inb ((p1 : Nat) : Int) 0 3) (!inb uu 0 4) = 0 then (putLs σ p1 (cnt (σ 0 p1) (σ 1 p1) + sgn (mm * usize uu) bb)) else σ) from by rw [if_pos hZ]; rw [ksg_e]) (show (0) = ex2 (!inb ((p1 : Nat) : Int) 0 3) (!inb uu 0 4) from hZ.symm)⟩, hS.F ht⟩) hS.2.2 dX3_units_61
    · have hX : ex2 (!inb z1 0 3) (!inb uu 0 4) = ex2 (!inb ((z1)) 0 3) false := by first | rfl | simp only [c_1, Bool.true_or, Bool.or_true, Bool.false_or, Bool.or_false, Bool.not_true, Bool.not_false]
      have hN : ¬ ex2 (!inb z1 0 3) (!inb uu 0 4) = 0 := kf_ne hX c_2
      refine lv_iconst (v := iZ 0) hx hb dX3_units_28 rfl ?_
      refine lv_goto (tgt := 61) hx hb dX3_units_29 (by decide) ?_
      refine W.widen (k := 1) (n := 2) (Nat.le_of_ble_eq_true rfl) (Nat.le_of_ble_eq_true rfl) ?_
      exact W.iret (v := iZ 0) hx hb hr9 (fun t ht hW => ⟨⟨congrArg (fun z : Int => Outcome.returned (some (Value.int (iZ z)))) (show 0 = (if ex2 (!inb z1 0 3) (!inb uu 0 4) = 0 then (putLr (cnt (σ 0 (z1.toNat)) (σ 1 (z1.toNat)) + sgn (mm * usize uu) bb)) else 0) from by rw [if_neg hN]), gY_cast ⟨r0, hr, hrA, by rw [ht]; exact va_Pl hP⟩ (show (σ) = (if ex2 (!inb z1 0 3) (!inb uu 0 4) = 0 then (putLs σ (z1.toNat) (cnt (σ 0 (z1.toNat)) (σ 1 (z1.toNat)) + sgn (mm * usize uu) bb)) else σ) from by rw [if_neg hN]) (show (ex2 ((!inb ((z1)) 0 3)) false) = ex2 (!inb z1 0 3) (!inb uu 0 4) from hX.symm)⟩, hS.F ht⟩) hS.2.2 dX3_units_61
  · refine lv_iconst (v := iZ 1) hx hb dX3_units_17 rfl ?_
    refine lv_goto (tgt := 22) hx hb dX3_units_18 (by decide) ?_
    refine kc2 (va_runV (As := [.int (iZ (bZ (!inb ((z1)) 0 3))), .int (iZ (bZ true))]) (rest := []) ⟨hx, hb, hml, hown, hts⟩ (c_X3_fails l dC dI dA k m0 (r0) (σ) (th) _ (va_Pl hP) hr hOK (!inb ((z1)) 0 3) true ) (cwV 2 hts (kg_V mw1037 mw1038 mw27 mw47 rfl mw1039) rfl rfl rfl hdV_X3_fails ⟨Nat.le_of_ble_eq_true rfl, Nat.le_of_ble_eq_true rfl⟩) ⟨fun a U g mk q => ⟨q.1, q.2.1, kM_call q.2.2⟩, va_recv hM.1 hP (ci := 6) (q0 := 0) rfl rfl, fun U hU hW => ⟨rfl, hU, kM_kept hM hS hAN hU hW⟩⟩ rfl rfl hl.1 rfl (lv_room (Nat.le_of_ble_eq_true rfl)) dX3_units_22 ⟨Nat.le_of_ble_eq_true rfl, Nat.le_of_ble_eq_true rfl⟩) hS (fun a _ h => kAy_tr hrA hS.1 a h) (fun a h => kAy_tr hrA hS.1 a h) (fun H locs hP9 hz9 hk9 hS => ?_)
    have hP : va_P (dC, dI) vwCl (kY dA m0 r0 σ (ex2 ((!inb ((z1)) 0 3)) true) ++ ([] : va_W)) _ := hP9
    have hD : va_D (kAy m0 r0 s.heap.size) (kY dA m0 r0 σ (ex2 ((!inb ((z1)) 0 3)) true) ++ ([] : va_W)) := by rw [← kap]; exact kYD_A hr hrA
    refine kz_ifb_eq (tgt := 32) hx hb  dX3_units_25 (by decide) (fun c_4 => absurd (kf_f c_4).2 (by decide)) (fun c_4 => ?_)
    have hX : ex2 (!inb z1 0 3) (!inb uu 0 4) = ex2 (!inb ((z1)) 0 3) true := by first | rfl | simp only [c_1, Bool.true_or, Bool.or_true, Bool.false_or, Bool.or_false, Bool.not_true, Bool.not_false]
    have hN : ¬ ex2 (!inb z1 0 3) (!inb uu 0 4) = 0 := kf_ne hX c_4
    refine lv_iconst (v := iZ 0) hx hb dX3_units_28 rfl ?_
    refine lv_goto (tgt := 61) hx hb dX3_units_29 (by decide) ?_
    refine W.widen (k := 1) (n := 2) (Nat.le_of_ble_eq_true rfl) (Nat.le_of_ble_eq_true rfl) ?_
    exact W.iret (v := iZ 0) hx hb hr9 (fun t ht hW => ⟨⟨congrArg (fun z : Int => Outcome.returned (some (Value.int (iZ z)))) (show 0 = (if ex2 (!inb z1 0 3) (!inb uu 0 4) = 0 then (putLr (cnt (σ 0 (z1.toNat)) (σ 1 (z1.toNat)) + sgn (mm * usize uu) bb)) else 0) from by rw [if_neg hN]), gY_cast ⟨r0, hr, hrA, by rw [ht]; exact va_Pl hP⟩ (show (σ) = (if ex2 (!inb z1 0 3) (!inb uu 0 4) = 0 then (putLs σ (z1.toNat) (cnt (σ 0 (z1.toNat)) (σ 1 (z1.toNat)) + sgn (mm * usize uu) bb)) else σ) from by rw [if_neg hN]) (show (ex2 ((!inb ((z1)) 0 3)) true) = ex2 (!inb z1 0 3) (!inb uu 0 4) from hX.symm)⟩, hS.F ht⟩) hS.2.2 dX3_units_61

abbrev ww_X3_both : List Cond := .code yX3_both cX3_both 5 (some .int) :: gT
set_option maxHeartbeats 4000000 in
set_option maxRecDepth 100000 in
theorem c_X3_both (l : Launch) (dC : Nat → ClassId) (dI : Nat → Nat → Nat) (dA : Nat → ClassId) (k : Nat → Nat) (m0 : Nat) (r0 : Nat → Nat → Nat) (σ : Nat → Nat → Int) (th : Int) (H0 : Heap) (hP : va_P (dC, dI) vwCl (kY dA m0 r0 σ th) H0) (hr : kRI m0 r0 k) (hOK : kOK σ) (z1 : Int) (yy : Int) (mm : Int) (bb : Bool) (rz1 : -2147483648 ≤ z1 ∧ z1 < 2147483648) (ryy : -2147483648 ≤ yy ∧ yy < 2147483648) (rmm : -2147483648 ≤ mm ∧ mm < 2147483648) : Met l yX3_both ww_X3_both ({ frames := 6, cells := 1, slots := 2, locals := 134 }) (va_Pc [.ref m0, .int (iZ z1), .int (iZ yy), .int (iZ mm), .int (iZ (bZ (bb)))] (fun U => U.heap = H0 ∧ kM dC dI dA k U)) (kQ2 (some (.int (iZ (if ex2 (!inb z1 0 3) (!inb yy (-99999999) 99999999 || !inb mm (-99999999) 99999999) = 0 then (putLr (cnt (σ 0 (z1.toNat)) (σ 1 (z1.toNat)) + sgn (12 * yy + mm) bb)) else 0)))) (gY dC dI dA k m0 r0 H0.size (if ex2 (!inb z1 0 3) (!inb yy (-99999999) 99999999 || !inb mm (-99999999) 99999999) = 0 then (putLs σ (z1.toNat) (cnt (σ 0 (z1.toNat)) (σ 1 (z1.toNat)) + sgn (12 * yy + mm) bb)) else σ) (ex2 (!inb z1 0 3) (!inb yy (-99999999) 99999999 || !inb mm (-99999999) 99999999))) (kAy m0 r0 H0.size)) 1 2 (kAy m0 r0 H0.size) := by
  refine Met.ofW (cc := cX3_both) (maxL := 5) (ret := (some .int)) (by decide) rfl ?_
  intro p e s m args below meth c s₁ B hml hv
  obtain ⟨rfl, hH, hM⟩ := hv
  subst hH
  have hr0 := hr
  have hAN : ∀ a, kAy m0 r0 s.heap.size a → k 0 ≤ a := fun a h => kAy_N hr0 hM.2.1.1 a h
  have hrA : ∀ i : Nat, i < 17 → kAy m0 r0 s.heap.size (kR m0 r0 i) := fun i hi => Or.inl ⟨i, hi, rfl⟩
  have hD : va_D (kAy m0 r0 s.heap.size) (kY dA m0 r0 σ (th) ++ ([] : va_W)) := by rw [← kap]; exact kYD_A hr hrA
  have hP : va_P (dC, dI) vwCl (kY dA m0 r0 σ (th) ++ ([] : va_W)) s.heap := hP
  have hS : va_S (kAy m0 r0 s.heap.size) s.heap s.heap [] := va_S.rf
  have hx := B.exec
  have hb := B.bytes
  have hr9 := B.returns
  have hts := atoms_spec (ws := ww_X3_both) B.pre
  have hown : s.vm.findClass RX3 = some m.cls := findClass_of_methodNamed B.named
  have hlocks := B.notSynchronized
  have hl := lv_entry ([.ref m0, .int (iZ z1), .int (iZ yy), .int (iZ mm), .int (iZ (bZ (bb)))]) (n := 5) (Nat.le_of_ble_eq_true rfl)
  rw [lg_entry_eq]
  generalize (lg_sl ([.ref m0, .int (iZ z1), .int (iZ yy), .int (iZ mm), .int (iZ (bZ (bb)))]) ++ List.replicate (5 - (lg_sl ([.ref m0, .int (iZ z1), .int (iZ yy), .int (iZ mm), .int (iZ (bZ (bb)))])).length) Slot.unset).toArray = ls at hl ⊢
  have hl : lv_has ls 5 [(0, .ref m0), (1, .int (iZ z1)), (2, .int (iZ yy)), (3, .int (iZ mm)), (4, .int (iZ (bZ (bb))))] := hl
  refine lv_aload_n hx hb dX3_both_0 rfl (lv_at hl 0 rfl) ?_
  refine lv_iload_n hx hb dX3_both_1 rfl (lv_at hl 1 rfl) ?_
  refine kc0 (fun _ q => q) (va_runS (As := [.int (iZ z1)]) (rest := [.ref m0]) ⟨hx, hb, hml, hown, hts⟩ (c_X3_isNo l _ (z1) (by first | omega | (unfold sgn; (try split) <;> omega))) (va_cwS 1 hts (kg_S mw1021 mw1022 mw47 rfl mw1023) rfl rfl rfl hdS_X3_isNo ⟨Nat.le_of_ble_eq_true rfl, Nat.le_of_ble_eq_true rfl⟩) ⟨fun a U g mk q => q, fun U hU hW => ⟨rfl, hU⟩⟩ rfl rfl hl.1 rfl (lv_room (Nat.le_of_ble_eq_true rfl)) dX3_both_2 ⟨Nat.le_of_ble_eq_true rfl, Nat.le_of_ble_eq_true rfl⟩) ?_
  refine lv_iload_n hx hb dX3_both_5 rfl (lv_at hl 2 rfl) ?_
  refine kz_i2l hx hb (by first | omega | (unfold sgn; (try split) <;> omega)) dX3_both_6 ?_
  refine lv_ldc2 (v := lZ (-99999999)) hx hb hown (hts _ (List.mem_cons_of_mem _ mw1096)) dX3_both_7 ?_
  refine lv_ldc2 (v := lZ 99999999) hx hb hown (hts _ (List.mem_cons_of_mem _ mw1097)) dX3_both_10 ?_
  refine kc0 (fun _ q => q) (va_runS (As := [.long (lZ (yy)), .long (lZ ((-99999999))), .long (lZ (99999999))]) (rest := [.int (iZ (bZ (!inb ((z1)) 0 3))), .ref m0]) ⟨hx, hb, hml, hown, hts⟩ (c_X3_isIn l _ (yy) (((-99999999))) (99999999) (by first | omega | (unfold sgn; (try split) <;> omega)) (by first | omega | (unfold sgn; (try split) <;> omega)) (by first | omega | (unfold sgn; (try split) <;> omega))) (va_cwS 3 hts (kg_S mw1025 mw1026 mw47 rfl mw1027) rfl rfl rfl hdS_X3_isIn ⟨Nat.le_of_ble_eq_true rfl, Nat.le_of_ble_eq_true rfl⟩) ⟨fun a U g mk q => q, fun U hU hW => ⟨rfl, hU⟩⟩ rfl rfl hl.1 rfl (lv_room (Nat.le_of_ble_eq_true rfl)) dX3_both_13 ⟨Nat.le_of_ble_eq_true rfl, Nat.le_of_ble_eq_true rfl⟩) ?_
  refine kz_ifb_eq (tgt := 33) hx hb  dX3_both_16 (by decide) (fun c_1 => ?_) (fun c_1 => ?_)
  · refine lv_iconst (v := iZ 1) hx hb dX3_both_33 rfl ?_
    refine lv_goto (tgt := 38) hx hb dX3_both_34 (by decide) ?_
    refine kc2 (va_runV (As := [.int (iZ (bZ (!inb ((z1)) 0 3))), .int (iZ (bZ true))]) (rest := []) ⟨hx, hb, hml, hown, hts⟩ (c_X3_fails l dC dI dA k m0 (r0) (σ) (th) _ (va_Pl hP) hr hOK (!inb ((z1)) 0 3) true ) (cwV 2 hts (kg_V mw1037 mw1038 mw27 mw47 rfl mw1039) rfl rfl rfl hdV_X3_fails ⟨Nat.le_of_ble_eq_true rfl, Nat.le_of_ble_eq_true rfl⟩) ⟨fun a U g mk q => ⟨q.1, q.2.1, kM_call q.2.2⟩, va_recv hM.1 hP (ci := 6) (q0 := 0) rfl rfl, fun U hU hW => ⟨rfl, hU, kM_kept hM hS hAN hU hW⟩⟩ rfl rfl hl.1 rfl (lv_room (Nat.le_of_ble_eq_true rfl)) dX3_both_38 ⟨Nat.le_of_ble_eq_true rfl, Nat.le_of_ble_eq_true rfl⟩) hS (fun a _ h => kAy_tr hrA hS.1 a h) (fun a h => kAy_tr hrA hS.1 a h) (fun H locs hP9 hz9 hk9 hS => ?_)
    have hP : va_P (dC, dI) vwCl (kY dA m0 r0 σ (ex2 ((!inb ((z1)) 0 3)) true) ++ ([] : va_W)) _ := hP9
    have hD : va_D (kAy m0 r0 s.heap.size) (kY dA m0 r0 σ (ex2 ((!inb ((z1)) 0 3)) true) ++ ([] : va_W)) := by rw [← kap]; exact kYD_A hr hrA
    refine kz_ifb_eq (tgt := 46) hx hb  dX3_both_41 (by decide) (fun c_2 => absurd (kf_f c_2).2 (by decide)) (fun c_2 => ?_)
    have hX : ex2 (!inb z1 0 3) (!inb yy (-99999999) 99999999 || !inb mm (-99999999) 99999999) = ex2 (!inb ((z1)) 0 3) true := by first | rfl | simp only [c_1, Bool.true_or, Bool.or_true, Bool.false_or, Bool.or_false, Bool.not_true, Bool.not_false]
    have hN : ¬ ex2 (!inb z1 0 3) (!inb yy (-99999999) 99999999 || !inb mm (-99999999) 99999999) = 0 := kf_ne hX c_2
    refine lv_iconst (v := iZ 0) hx hb dX3_both_44 rfl ?_
    refine W.widen (k := 1) (n := 2) (Nat.le_of_ble_eq_true rfl) (Nat.le_of_ble_eq_true rfl) ?_
    exact W.iret (v := iZ 0) hx hb hr9 (fun t ht hW => ⟨⟨congrArg (fun z : Int => Outcome.returned (some (Value.int (iZ z)))) (show 0 = (if ex2 (!inb z1 0 3) (!inb yy (-99999999) 99999999 || !inb mm (-99999999) 99999999) = 0 then (putLr (cnt (σ 0 (z1.toNat)) (σ 1 (z1.toNat)) + sgn (12 * yy + mm) bb)) else 0) from by rw [if_neg hN]), gY_cast ⟨r0, hr, hrA, by rw [ht]; exact va_Pl hP⟩ (show (σ) = (if ex2 (!inb z1 0 3) (!inb yy (-99999999) 99999999 || !inb mm (-99999999) 99999999) = 0 then (putLs σ (z1.toNat) (cnt (σ 0 (z1.toNat)) (σ 1 (z1.toNat)) + sgn (12 * yy + mm) bb)) else σ) from by rw [if_neg hN]) (show (ex2 ((!inb ((z1)) 0 3)) true) = ex2 (!inb z1 0 3) (!inb yy (-99999999) 99999999 || !inb mm (-99999999) 99999999) from hX.symm)⟩, hS.F ht⟩) hS.2.2 dX3_both_45
  · refine lv_iload_n hx hb dX3_both_19 rfl (lv_at hl 3 rfl) ?_
    refine kz_i2l hx hb (by first | omega | (unfold sgn; (try split) <;> omega)) dX3_both_20 ?_
    refine lv_ldc2 (v := lZ (-99999999)) hx hb hown (hts _ (List.mem_cons_of_mem _ mw1096)) dX3_both_21 ?_
    refine lv_ldc2 (v := lZ 99999999) hx hb hown (hts _ (List.mem_cons_of_mem _ mw1097)) dX3_both_24 ?_
    refine kc0 (fun _ q => q) (va_runS (As := [.long (lZ (mm)), .long (lZ ((-99999999))), .long (lZ (99999999))]) (rest := [.int (iZ (bZ (!inb ((z1)) 0 3))), .ref m0]) ⟨hx, hb, hml, hown, hts⟩ (c_X3_isIn l _ (mm) (((-99999999))) (99999999) (by first | omega | (unfold sgn; (try split) <;> omega)) (by first | omega | (unfold sgn; (try split) <;> omega)) (by first | omega | (unfold sgn; (try split) <;> omega))) (va_cwS 3 hts (kg_S mw1025 mw1026 mw47 rfl mw1027) rfl rfl rfl hdS_X3_isIn ⟨Nat.le_of_ble_eq_true rfl, Nat.le_of_ble_eq_true rfl⟩) ⟨fun a U g mk q => q, fun U hU hW => ⟨rfl, hU⟩⟩ rfl rfl hl.1 rfl (lv_room (Nat.le_of_ble_eq_true rfl)) dX3_both_27 ⟨Nat.le_of_ble_eq_true rfl, Nat.le_of_ble_eq_true rfl⟩) ?_
    refine kz_ifb_ne (tgt := 37) hx hb  dX3_both_30 (by decide) (fun c_3 => ?_) (fun c_3 => ?_)
    · refine lv_iconst (v := iZ 0) hx hb dX3_both_37 rfl ?_
      refine kc2 (va_runV (As := [.int (iZ (bZ (!inb ((z1)) 0 3))), .int (iZ (bZ false))]) (rest := []) ⟨hx, hb, hml, hown, hts⟩ (c_X3_fails l dC dI dA k m0 (r0) (σ) (th) _ (va_Pl hP) hr hOK (!inb ((z1)) 0 3) false ) (cwV 2 hts (kg_V mw1037 mw1038 mw27 mw47 rfl mw1039) rfl rfl rfl hdV_X3_fails ⟨Nat.le_of_ble_eq_true rfl, Nat.le_of_ble_eq_true rfl⟩) ⟨fun a U g mk q => ⟨q.1, q.2.1, kM_call q.2.2⟩, va_recv hM.1 hP (ci := 6) (q0 := 0) rfl rfl, fun U hU hW => ⟨rfl, hU, kM_kept hM hS hAN hU hW⟩⟩ rfl rfl hl.1 rfl (lv_room (Nat.le_of_ble_eq_true rfl)) dX3_both_38 ⟨Nat.le_of_ble_eq_true rfl, Nat.le_of_ble_eq_true rfl⟩) hS (fun a _ h => kAy_tr hrA hS.1 a h) (fun a h => kAy_tr hrA hS.1 a h) (fun H locs hP9 hz9 hk9 hS => ?_)
      have hP : va_P (dC, dI) vwCl (kY dA m0 r0 σ (ex2 ((!inb ((z1)) 0 3)) false) ++ ([] : va_W)) _ := hP9
      have hD : va_D (kAy m0 r0 s.heap.size) (kY dA m0 r0 σ (ex2 ((!inb ((z1)) 0 3)) false) ++ ([] : va_W)) := by rw [← kap]; exact kYD_A hr hrA
      refine kz_ifb_eq (tgt := 46) hx hb  dX3_both_41 (by decide) (fun c_4 => ?_) (fun c_4 => ?_)
      · have hX : ex2 (!inb z1 0 3) (!inb yy (-99999999) 99999999 || !inb mm (-99999999) 99999999) = ex2 (!inb ((z1)) 0 3) false := by first | rfl | simp only [c_1, c_3, Bool.true_or, Bool.or_true, Bool.false_or, Bool.or_false, Bool.not_true, Bool.not_false]
        have hZ : ex2 (!inb z1 0 3) (!inb yy (-99999999) 99999999 || !inb mm (-99999999) 99999999) = 0 := kf_eq hX c_4
        obtain ⟨hA9, hB9⟩ := ex2_z hZ
        simp only [Bool.or_eq_false_iff, Bool.not_eq_false', Bool.not_eq_true', inb, decide_eq_true_eq, decide_eq_false_iff_not, noThing_niff] at hA9
        simp only [Bool.or_eq_false_iff, Bool.not_eq_false', Bool.not_eq_true', inb, decide_eq_true_eq, decide_eq_false_iff_not, noThing_niff] at hB9
        obtain ⟨p1, hp1, rfl⟩ : ∃ p1 : Nat, p1 < 4 ∧ z1 = (p1 : Int) := ⟨z1.toNat, by omega, by omega⟩
        have o_p1 := kOKr hOK hp1
        have l_p1 := mlen_rng (leap (σ 0 p1)) (σ 1 p1)
        have n_p1 := dnum_rng (y := σ 5 p1) (m := σ 6 p1) (d := σ 7 p1) (by omega) (by omega) (by omega)
        have hP := kY0 hP (kf_e c_4)
        have hD := kD0 hD (kf_e c_4)
        refine lv_aload_n hx hb dX3_both_46 rfl (lv_at hl 0 rfl) ?_
        refine lv_iload_n hx hb dX3_both_47 rfl (lv_at hl 1 rfl) ?_
        refine lv_aload_n hx hb dX3_both_48 rfl (lv_at hl 0 rfl) ?_
        refine va_get (D := (dC, dI)) (ci := 6) (v := .ref (r0 0 1)) (C := RX3) (T := TX3) (N := 6) hx hb hts (fun w h => List.mem_cons_of_mem _ (gF_2_in h)) hown hM.1 hP 0 rfl rfl 0 (by decide) (hts _ (List.mem_cons_of_mem _ mw1007)) (fun _ h9 => h9) rfl dX3_both_49 ?_
        refine lv_iload_n hx hb dX3_both_52 rfl (lv_at hl 1 rfl) ?_
        refine kz_aald (v := r0 1 p1) hx hb hM.1 hP 1 rfl (by omega) (by decide) rfl dX3_both_53 ?_
        refine kc0 (fun _ q => q) (va_runS (As := [.ref (r0 1 p1)]) (rest := [.int (iZ ((p1 : Nat) : Int)), .ref m0]) ⟨hx, hb, hml, hown, hts⟩ (c_X3_countOf l dC dI dA k _ _ hP (5 + p1) (r0 1 p1) _ (σ 0 p1) (σ 1 p1) (kY_L _ hp1) rfl rfl (by first | omega | (unfold sgn; (try split) <;> omega)) (by first | omega | (unfold sgn; (try split) <;> omega))) (va_cwS 1 hts (kg_S mw1070 mw1071 mw47 rfl mw1072) rfl rfl rfl hdS_X3_countOf ⟨Nat.le_of_ble_eq_true rfl, Nat.le_of_ble_eq_true rfl⟩) ⟨fun a U g mk q => ⟨q.1, q.2.1, kM_call q.2.2⟩, fun U hU hW => ⟨rfl, hU, kM_kept hM hS hAN hU hW⟩⟩ rfl rfl hl.1 rfl (lv_room (Nat.le_of_ble_eq_true rfl)) dX3_both_54 ⟨Nat.le_of_ble_eq_true rfl, Nat.le_of_ble_eq_true rfl⟩) ?_
        refine lv_ldc2 (v := lZ 12) hx hb hown (hts _ (List.mem_cons_of_mem _ mw1036)) dX3_both_57 ?_
        refine lv_iload_n hx hb dX3_both_60 rfl (lv_at hl 2 rfl) ?_
        refine kz_i2l hx hb (by first | omega | (unfold sgn; (try split) <;> omega)) dX3_both_61 ?_
        refine kz_lmul hx hb dX3_both_62 ?_
        refine lv_iload_n hx hb dX3_both_63 rfl (lv_at hl 3 rfl) ?_
        refine kz_i2l hx hb (by first | omega | (unfold sgn; (try split) <;> omega)) dX3_both_64 ?_
        refine kz_ladd hx hb dX3_both_65 ?_
        refine lv_iload hx hb dX3_both_66 (lv_at hl 4 rfl) ?_
        refine kc0 (fun _ q => q) (va_runS (As := [.long (lZ ((12 * yy) + mm)), .int (iZ (bZ (bb)))]) (rest := [.long (lZ (cnt ((σ 0 p1)) ((σ 1 p1)))), .int (iZ ((p1 : Nat) : Int)), .ref m0]) ⟨hx, hb, hml, hown, hts⟩ (c_X3_signed l _ (((12 * yy) + mm)) (bb)) (va_cwS 2 hts (kg_S mw1073 mw1074 mw47 rfl mw1075) rfl rfl rfl hdS_X3_signed ⟨Nat.le_of_ble_eq_true rfl, Nat.le_of_ble_eq_true rfl⟩) ⟨fun a U g mk q => q, fun U hU hW => ⟨rfl, hU⟩⟩ rfl rfl hl.1 rfl (lv_room (Nat.le_of_ble_eq_true rfl)) dX3_both_68 ⟨Nat.le_of_ble_eq_true rfl, Nat.le_of_ble_eq_true rfl⟩) ?_
        refine kz_ladd hx hb dX3_both_71 ?_
        refine kc2 (va_runV (As := [.int (iZ ((p1 : Nat) : Int)), .long (lZ ((cnt ((σ 0 p1)) ((σ 1 p1))) + (sgn ((((12 * yy) + mm))) ((bb)))))]) (rest := []) ⟨hx, hb, hml, hown, hts⟩ (c_X3_putCount l dC dI dA k m0 (r0) (σ) (0) _ (va_Pl hP) hr hOK p1 (((cnt ((σ 0 p1)) ((σ 1 p1))) + (sgn ((((12 * yy) + mm))) ((bb))))) hp1 (by first | omega | (unfold sgn; (try split) <;> omega))) (cwV 2 hts (kg_V mw1076 mw1077 mw30 mw47 rfl mw1078) rfl rfl rfl hdV_X3_putCount ⟨Nat.le_of_ble_eq_true rfl, Nat.le_of_ble_eq_true rfl⟩) ⟨fun a U g mk q => ⟨q.1, q.2.1, kM_call q.2.2⟩, va_recv hM.1 hP (ci := 6) (q0 := 0) rfl rfl, fun U hU hW => ⟨rfl, hU, kM_kept hM hS hAN hU hW⟩⟩ rfl rfl hl.1 rfl (lv_room (Nat.le_of_ble_eq_true rfl)) dX3_both_72 ⟨Nat.le_of_ble_eq_true rfl, Nat.le_of_ble_eq_true rfl⟩) hS (fun a _ h => kAy_tr hrA hS.1 a h) (fun a h => kAy_tr hrA hS.1 a h) (fun H locs hG hz9 hk9 hS9 => ?_)
        obtain ⟨r_5, hr, hrA9, hP⟩ := hG
        have hrA := kAy_tr2 hrA hS.1 hrA9
        have hS := hS9
        have hP : va_P (dC, dI) vwCl (kY dA m0 r_5 (putLs σ p1 ((((cnt ((σ 0 p1)) ((σ 1 p1))) + (sgn ((((12 * yy) + mm))) ((bb))))))) (0) ++ ([] : va_W)) _ := hP
        have hD : va_D (kAy m0 r0 s.heap.size) (kY dA m0 r_5 (putLs σ p1 ((((cnt ((σ 0 p1)) ((σ 1 p1))) + (sgn ((((12 * yy) + mm))) ((bb))))))) (0) ++ ([] : va_W)) := by rw [← kap]; exact kYD_A hr hrA
        refine W.widen (k := 1) (n := 2) (Nat.le_of_ble_eq_true rfl) (Nat.le_of_ble_eq_true rfl) ?_
        exact W.iret (v := iZ (putLr ((((cnt ((σ 0 p1)) ((σ 1 p1))) + (sgn ((((12 * yy) + mm))) ((bb)))))))) hx hb hr9 (fun t ht hW => ⟨⟨congrArg (fun z : Int => Outcome.returned (some (Value.int (iZ z)))) (show (putLr ((((cnt ((σ 0 p1)) ((σ 1 p1))) + (sgn ((((12 * yy) + mm))) ((bb))))))) = (if ex2 (!inb ((p1 : Nat) : Int) 0 3) (!inb yy (-99999999) 99999999 || !inb mm (-99999999) 99999999) = 0 then (putLr (cnt (σ 0 p1) (σ 1 p1) + sgn (12 * yy + mm) bb)) else 0) from by rw [if_pos hZ]; done), gY_cast ⟨r_5, hr, hrA, by rw [ht]; exact va_Pl hP⟩ (show (putLs σ p1 ((((cnt ((σ 0 p1)) ((σ 1 p1))) + (sgn ((((12 * yy) + mm))) ((bb))))))) = (if ex2 (!inb ((p1 : Nat) : Int) 0 3) (!inb yy (-99999999) 99999999 || !inb mm (-99999999) 99999999) = 0 then (putLs σ p1 (cnt (σ 0 p1) (σ 1 p1) + sgn (12 * yy + mm) bb)) else σ) from by rw [if_pos hZ]; done) (show (0) = ex2 (!inb ((p1 : Nat) : Int) 0 3) (!inb yy (-99999999) 99999999 || !inb mm (-99999999) 99999999) from hZ.symm)⟩, hS.F ht⟩) hS.2.2 dX3_both_75
      · have hX : ex2 (!inb z1 0 3) (!inb yy (-99999999) 99999999 || !inb mm (-99999999) 99999999) = ex2 (!inb ((z1)) 0 3) false := by first | rfl | simp only [c_1, c_3, Bool.true_or, Bool.or_true, Bool.false_or, Bool.or_false, Bool.not_true, Bool.not_false]
        have hN : ¬ ex2 (!inb z1 0 3) (!inb yy (-99999999) 99999999 || !inb mm (-99999999) 99999999) = 0 := kf_ne hX c_4
        refine lv_iconst (v := iZ 0) hx hb dX3_both_44 rfl ?_
        refine W.widen (k := 1) (n := 2) (Nat.le_of_ble_eq_true rfl) (Nat.le_of_ble_eq_true rfl) ?_
        exact W.iret (v := iZ 0) hx hb hr9 (fun t ht hW => ⟨⟨congrArg (fun z : Int => Outcome.returned (some (Value.int (iZ z)))) (show 0 = (if ex2 (!inb z1 0 3) (!inb yy (-99999999) 99999999 || !inb mm (-99999999) 99999999) = 0 then (putLr (cnt (σ 0 (z1.toNat)) (σ 1 (z1.toNat)) + sgn (12 * yy + mm) bb)) else 0) from by rw [if_neg hN]), gY_cast ⟨r0, hr, hrA, by rw [ht]; exact va_Pl hP⟩ (show (σ) = (if ex2 (!inb z1 0 3) (!inb yy (-99999999) 99999999 || !inb mm (-99999999) 99999999) = 0 then (putLs σ (z1.toNat) (cnt (σ 0 (z1.toNat)) (σ 1 (z1.toNat)) + sgn (12 * yy + mm) bb)) else σ) from by rw [if_neg hN]) (show (ex2 ((!inb ((z1)) 0 3)) false) = ex2 (!inb z1 0 3) (!inb yy (-99999999) 99999999 || !inb mm (-99999999) 99999999) from hX.symm)⟩, hS.F ht⟩) hS.2.2 dX3_both_45
    · refine lv_iconst (v := iZ 1) hx hb dX3_both_33 rfl ?_
      refine lv_goto (tgt := 38) hx hb dX3_both_34 (by decide) ?_
      refine kc2 (va_runV (As := [.int (iZ (bZ (!inb ((z1)) 0 3))), .int (iZ (bZ true))]) (rest := []) ⟨hx, hb, hml, hown, hts⟩ (c_X3_fails l dC dI dA k m0 (r0) (σ) (th) _ (va_Pl hP) hr hOK (!inb ((z1)) 0 3) true ) (cwV 2 hts (kg_V mw1037 mw1038 mw27 mw47 rfl mw1039) rfl rfl rfl hdV_X3_fails ⟨Nat.le_of_ble_eq_true rfl, Nat.le_of_ble_eq_true rfl⟩) ⟨fun a U g mk q => ⟨q.1, q.2.1, kM_call q.2.2⟩, va_recv hM.1 hP (ci := 6) (q0 := 0) rfl rfl, fun U hU hW => ⟨rfl, hU, kM_kept hM hS hAN hU hW⟩⟩ rfl rfl hl.1 rfl (lv_room (Nat.le_of_ble_eq_true rfl)) dX3_both_38 ⟨Nat.le_of_ble_eq_true rfl, Nat.le_of_ble_eq_true rfl⟩) hS (fun a _ h => kAy_tr hrA hS.1 a h) (fun a h => kAy_tr hrA hS.1 a h) (fun H locs hP9 hz9 hk9 hS => ?_)
      have hP : va_P (dC, dI) vwCl (kY dA m0 r0 σ (ex2 ((!inb ((z1)) 0 3)) true) ++ ([] : va_W)) _ := hP9
      have hD : va_D (kAy m0 r0 s.heap.size) (kY dA m0 r0 σ (ex2 ((!inb ((z1)) 0 3)) true) ++ ([] : va_W)) := by rw [← kap]; exact kYD_A hr hrA
      refine kz_ifb_eq (tgt := 46) hx hb  dX3_both_41 (by decide) (fun c_6 => absurd (kf_f c_6).2 (by decide)) (fun c_6 => ?_)
      have hX : ex2 (!inb z1 0 3) (!inb yy (-99999999) 99999999 || !inb mm (-99999999) 99999999) = ex2 (!inb ((z1)) 0 3) true := by first | rfl | simp only [c_1, c_3, Bool.true_or, Bool.or_true, Bool.false_or, Bool.or_false, Bool.not_true, Bool.not_false]
      have hN : ¬ ex2 (!inb z1 0 3) (!inb yy (-99999999) 99999999 || !inb mm (-99999999) 99999999) = 0 := kf_ne hX c_6
      refine lv_iconst (v := iZ 0) hx hb dX3_both_44 rfl ?_
      refine W.widen (k := 1) (n := 2) (Nat.le_of_ble_eq_true rfl) (Nat.le_of_ble_eq_true rfl) ?_
      exact W.iret (v := iZ 0) hx hb hr9 (fun t ht hW => ⟨⟨congrArg (fun z : Int => Outcome.returned (some (Value.int (iZ z)))) (show 0 = (if ex2 (!inb z1 0 3) (!inb yy (-99999999) 99999999 || !inb mm (-99999999) 99999999) = 0 then (putLr (cnt (σ 0 (z1.toNat)) (σ 1 (z1.toNat)) + sgn (12 * yy + mm) bb)) else 0) from by rw [if_neg hN]), gY_cast ⟨r0, hr, hrA, by rw [ht]; exact va_Pl hP⟩ (show (σ) = (if ex2 (!inb z1 0 3) (!inb yy (-99999999) 99999999 || !inb mm (-99999999) 99999999) = 0 then (putLs σ (z1.toNat) (cnt (σ 0 (z1.toNat)) (σ 1 (z1.toNat)) + sgn (12 * yy + mm) bb)) else σ) from by rw [if_neg hN]) (show (ex2 ((!inb ((z1)) 0 3)) true) = ex2 (!inb z1 0 3) (!inb yy (-99999999) 99999999 || !inb mm (-99999999) 99999999) from hX.symm)⟩, hS.F ht⟩) hS.2.2 dX3_both_45

abbrev ww_X3_leafYear : List Cond := .code yX3_leafYear cX3_leafYear 4 (some .int) :: gT
set_option maxHeartbeats 4000000 in
set_option maxRecDepth 100000 in
theorem c_X3_leafYear (l : Launch) (dC : Nat → ClassId) (dI : Nat → Nat → Nat) (dA : Nat → ClassId) (k : Nat → Nat) (m0 : Nat) (r0 : Nat → Nat → Nat) (σ : Nat → Nat → Int) (th : Int) (H0 : Heap) (hP : va_P (dC, dI) vwCl (kY dA m0 r0 σ th) H0) (hr : kRI m0 r0 k) (hOK : kOK σ) (z1 : Int) (yy : Int) (rz1 : -2147483648 ≤ z1 ∧ z1 < 2147483648) (ryy : -2147483648 ≤ yy ∧ yy < 2147483648) : Met l yX3_leafYear ww_X3_leafYear ({ frames := 5, cells := 1, slots := 2, locals := 109 }) (va_Pc [.ref m0, .int (iZ z1), .int (iZ yy)] (fun U => U.heap = H0 ∧ kM dC dI dA k U)) (kQ2 (some (.int (iZ (if ex2 (!inb z1 0 3) (!inb yy (-999999999) 999999999) = 0 then (σ 0 (z1.toNat)) else 0)))) (gY dC dI dA k m0 r0 H0.size (if ex2 (!inb z1 0 3) (!inb yy (-999999999) 999999999) = 0 then (sU (sU σ 0 z1.toNat yy) 1 z1.toNat (σ 1 (z1.toNat))) else σ) (ex2 (!inb z1 0 3) (!inb yy (-999999999) 999999999))) (kAy m0 r0 H0.size)) 1 2 (kAy m0 r0 H0.size) := by
  refine Met.ofW (cc := cX3_leafYear) (maxL := 4) (ret := (some .int)) (by decide) rfl ?_
  intro p e s m args below meth c s₁ B hml hv
  obtain ⟨rfl, hH, hM⟩ := hv
  subst hH
  have hr0 := hr
  have hAN : ∀ a, kAy m0 r0 s.heap.size a → k 0 ≤ a := fun a h => kAy_N hr0 hM.2.1.1 a h
  have hrA : ∀ i : Nat, i < 17 → kAy m0 r0 s.heap.size (kR m0 r0 i) := fun i hi => Or.inl ⟨i, hi, rfl⟩
  have hD : va_D (kAy m0 r0 s.heap.size) (kY dA m0 r0 σ (th) ++ ([] : va_W)) := by rw [← kap]; exact kYD_A hr hrA
  have hP : va_P (dC, dI) vwCl (kY dA m0 r0 σ (th) ++ ([] : va_W)) s.heap := hP
  have hS : va_S (kAy m0 r0 s.heap.size) s.heap s.heap [] := va_S.rf
  have hx := B.exec
  have hb := B.bytes
  have hr9 := B.returns
  have hts := atoms_spec (ws := ww_X3_leafYear) B.pre
  have hown : s.vm.findClass RX3 = some m.cls := findClass_of_methodNamed B.named
  have hlocks := B.notSynchronized
  have hl := lv_entry ([.ref m0, .int (iZ z1), .int (iZ yy)]) (n := 4) (Nat.le_of_ble_eq_true rfl)
  rw [lg_entry_eq]
  generalize (lg_sl ([.ref m0, .int (iZ z1), .int (iZ yy)]) ++ List.replicate (4 - (lg_sl ([.ref m0, .int (iZ z1), .int (iZ yy)])).length) Slot.unset).toArray = ls at hl ⊢
  have hl : lv_has ls 4 [(0, .ref m0), (1, .int (iZ z1)), (2, .int (iZ yy))] := hl
  refine lv_aload_n hx hb dX3_leafYear_0 rfl (lv_at hl 0 rfl) ?_
  refine lv_iload_n hx hb dX3_leafYear_1 rfl (lv_at hl 1 rfl) ?_
  refine kc0 (fun _ q => q) (va_runS (As := [.int (iZ z1)]) (rest := [.ref m0]) ⟨hx, hb, hml, hown, hts⟩ (c_X3_isNo l _ (z1) (by first | omega | (unfold sgn; (try split) <;> omega))) (va_cwS 1 hts (kg_S mw1021 mw1022 mw47 rfl mw1023) rfl rfl rfl hdS_X3_isNo ⟨Nat.le_of_ble_eq_true rfl, Nat.le_of_ble_eq_true rfl⟩) ⟨fun a U g mk q => q, fun U hU hW => ⟨rfl, hU⟩⟩ rfl rfl hl.1 rfl (lv_room (Nat.le_of_ble_eq_true rfl)) dX3_leafYear_2 ⟨Nat.le_of_ble_eq_true rfl, Nat.le_of_ble_eq_true rfl⟩) ?_
  refine lv_iload_n hx hb dX3_leafYear_5 rfl (lv_at hl 2 rfl) ?_
  refine kz_i2l hx hb (by first | omega | (unfold sgn; (try split) <;> omega)) dX3_leafYear_6 ?_
  refine kc0 (fun _ q => q) (va_runS (As := [.long (lZ (yy))]) (rest := [.int (iZ (bZ (!inb ((z1)) 0 3))), .ref m0]) ⟨hx, hb, hml, hown, hts⟩ (c_X3_isNoYear l _ (yy) (by first | omega | (unfold sgn; (try split) <;> omega))) (va_cwS 1 hts (kg_S mw1028 mw1029 mw47 rfl mw1030) rfl rfl rfl hdS_X3_isNoYear ⟨Nat.le_of_ble_eq_true rfl, Nat.le_of_ble_eq_true rfl⟩) ⟨fun a U g mk q => q, fun U hU hW => ⟨rfl, hU⟩⟩ rfl rfl hl.1 rfl (lv_room (Nat.le_of_ble_eq_true rfl)) dX3_leafYear_7 ⟨Nat.le_of_ble_eq_true rfl, Nat.le_of_ble_eq_true rfl⟩) ?_
  refine kc2 (va_runV (As := [.int (iZ (bZ (!inb ((z1)) 0 3))), .int (iZ (bZ (!inb ((yy)) (-999999999) 999999999)))]) (rest := []) ⟨hx, hb, hml, hown, hts⟩ (c_X3_fails l dC dI dA k m0 (r0) (σ) (th) _ (va_Pl hP) hr hOK (!inb ((z1)) 0 3) (!inb ((yy)) (-999999999) 999999999) ) (cwV 2 hts (kg_V mw1037 mw1038 mw27 mw47 rfl mw1039) rfl rfl rfl hdV_X3_fails ⟨Nat.le_of_ble_eq_true rfl, Nat.le_of_ble_eq_true rfl⟩) ⟨fun a U g mk q => ⟨q.1, q.2.1, kM_call q.2.2⟩, va_recv hM.1 hP (ci := 6) (q0 := 0) rfl rfl, fun U hU hW => ⟨rfl, hU, kM_kept hM hS hAN hU hW⟩⟩ rfl rfl hl.1 rfl (lv_room (Nat.le_of_ble_eq_true rfl)) dX3_leafYear_10 ⟨Nat.le_of_ble_eq_true rfl, Nat.le_of_ble_eq_true rfl⟩) hS (fun a _ h => kAy_tr hrA hS.1 a h) (fun a h => kAy_tr hrA hS.1 a h) (fun H locs hP9 hz9 hk9 hS => ?_)
  have hP : va_P (dC, dI) vwCl (kY dA m0 r0 σ (ex2 ((!inb ((z1)) 0 3)) ((!inb ((yy)) (-999999999) 999999999))) ++ ([] : va_W)) _ := hP9
  have hD : va_D (kAy m0 r0 s.heap.size) (kY dA m0 r0 σ (ex2 ((!inb ((z1)) 0 3)) ((!inb ((yy)) (-999999999) 999999999))) ++ ([] : va_W)) := by rw [← kap]; exact kYD_A hr hrA
  refine kz_ifb_eq (tgt := 18) hx hb  dX3_leafYear_13 (by decide) (fun c_1 => ?_) (fun c_1 => ?_)
  · have hX : ex2 (!inb z1 0 3) (!inb yy (-999999999) 999999999) = ex2 (!inb ((z1)) 0 3) (!inb ((yy)) (-999999999) 999999999) := by first | rfl | simp only [Bool.true_or, Bool.or_true, Bool.false_or, Bool.or_false, Bool.not_true, Bool.not_false]
    have hZ : ex2 (!inb z1 0 3) (!inb yy (-999999999) 999999999) = 0 := kf_eq hX c_1
    obtain ⟨hA9, hB9⟩ := ex2_z hZ
    simp only [Bool.or_eq_false_iff, Bool.not_eq_false', Bool.not_eq_true', inb, decide_eq_true_eq, decide_eq_false_iff_not, noThing_niff] at hA9
    simp only [Bool.or_eq_false_iff, Bool.not_eq_false', Bool.not_eq_true', inb, decide_eq_true_eq, decide_eq_false_iff_not, noThing_niff] at hB9
    obtain ⟨p1, hp1, rfl⟩ : ∃ p1 : Nat, p1 < 4 ∧ z1 = (p1 : Int) := ⟨z1.toNat, by omega, by omega⟩
    have o_p1 := kOKr hOK hp1
    have l_p1 := mlen_rng (leap (σ 0 p1)) (σ 1 p1)
    have n_p1 := dnum_rng (y := σ 5 p1) (m := σ 6 p1) (d := σ 7 p1) (by omega) (by omega) (by omega)
    have hP := kY0 hP (kf_e c_1)
    have hD := kD0 hD (kf_e c_1)
    refine lv_aload_n hx hb dX3_leafYear_18 rfl (lv_at hl 0 rfl) ?_
    refine va_get (D := (dC, dI)) (ci := 6) (v := .ref (r0 0 1)) (C := RX3) (T := TX3) (N := 6) hx hb hts (fun w h => List.mem_cons_of_mem _ (gF_2_in h)) hown hM.1 hP 0 rfl rfl 0 (by decide) (hts _ (List.mem_cons_of_mem _ mw1007)) (fun _ h9 => h9) rfl dX3_leafYear_19 ?_
    refine lv_iload_n hx hb dX3_leafYear_22 rfl (lv_at hl 1 rfl) ?_
    refine kz_aald (v := r0 1 p1) hx hb hM.1 hP 1 rfl (by omega) (by decide) rfl dX3_leafYear_23 ?_
    refine lv_iconst (v := iZ 0) hx hb dX3_leafYear_24 rfl ?_
    refine kz_iald (v := σ 0 p1) hx hb hM.1 hP (5 + p1) 0 (kY_L _ hp1) rfl (by omega) (by decide) rfl dX3_leafYear_25 ?_
    refine lv_istore_n (lv' := [(3, .int (iZ (σ 0 p1))), (0, .ref m0), (1, .int (iZ ((p1 : Nat) : Int))), (2, .int (iZ yy))]) hx hb dX3_leafYear_26 rfl hl (by decide) rfl (fun ls hl => ?_)
    refine lv_aload_n hx hb dX3_leafYear_27 rfl (lv_at hl 1 rfl) ?_
    refine lv_iload_n hx hb dX3_leafYear_28 rfl (lv_at hl 2 rfl) ?_
    refine lv_iload_n hx hb dX3_leafYear_29 rfl (lv_at hl 3 rfl) ?_
    refine lv_aload_n hx hb dX3_leafYear_30 rfl (lv_at hl 1 rfl) ?_
    refine va_get (D := (dC, dI)) (ci := 6) (v := .ref (r0 0 1)) (C := RX3) (T := TX3) (N := 6) hx hb hts (fun w h => List.mem_cons_of_mem _ (gF_2_in h)) hown hM.1 hP 0 rfl rfl 0 (by decide) (hts _ (List.mem_cons_of_mem _ mw1007)) (fun _ h9 => h9) rfl dX3_leafYear_31 ?_
    refine lv_iload_n hx hb dX3_leafYear_34 rfl (lv_at hl 2 rfl) ?_
    refine kz_aald (v := r0 1 p1) hx hb hM.1 hP 1 rfl (by omega) (by decide) rfl dX3_leafYear_35 ?_
    refine lv_iconst (v := iZ 1) hx hb dX3_leafYear_36 rfl ?_
    refine kz_iald (v := σ 1 p1) hx hb hM.1 hP (5 + p1) 0 (kY_L _ hp1) rfl (by omega) (by decide) rfl dX3_leafYear_37 ?_
    refine kc2 (va_runV (As := [.int (iZ ((p1 : Nat) : Int)), .int (iZ yy), .int (iZ (σ 1 p1))]) (rest := []) ⟨hx, hb, hml, hown, hts⟩ (c_X3_putLeaf l dC dI dA k m0 (r0) (σ) (0) _ (va_Pl hP) hr hOK p1 (yy) ((σ 1 p1)) hp1 (by first | omega | (unfold sgn; (try split) <;> omega)) (by first | omega | (unfold sgn; (try split) <;> omega))) (cwV 3 hts (kg_V mw1040 mw1041 mw28 mw47 rfl mw1042) rfl rfl rfl hdV_X3_putLeaf ⟨Nat.le_of_ble_eq_true rfl, Nat.le_of_ble_eq_true rfl⟩) ⟨fun a U g mk q => ⟨q.1, q.2.1, kM_call q.2.2⟩, va_recv hM.1 hP (ci := 6) (q0 := 0) rfl rfl, fun U hU hW => ⟨rfl, hU, kM_kept hM hS hAN hU hW⟩⟩ rfl rfl hl.1 rfl (lv_room (Nat.le_of_ble_eq_true rfl)) dX3_leafYear_38 ⟨Nat.le_of_ble_eq_true rfl, Nat.le_of_ble_eq_true rfl⟩) hS (fun a _ h => kAy_tr hrA hS.1 a h) (fun a h => kAy_tr hrA hS.1 a h) (fun H locs hG hz9 hk9 hS9 => ?_)
    obtain ⟨r_2, hr, hrA9, hP⟩ := hG
    have hrA := kAy_tr2 hrA hS.1 hrA9
    have hS := hS9
    have hP : va_P (dC, dI) vwCl (kY dA m0 r_2 (sU (sU σ 0 p1 ((yy))) 1 p1 (((σ 1 p1)))) (0) ++ ([] : va_W)) _ := hP
    have hD : va_D (kAy m0 r0 s.heap.size) (kY dA m0 r_2 (sU (sU σ 0 p1 ((yy))) 1 p1 (((σ 1 p1)))) (0) ++ ([] : va_W)) := by rw [← kap]; exact kYD_A hr hrA
    refine lv_pop hx hb dX3_leafYear_41 rfl ?_
    refine lv_iload_n hx hb dX3_leafYear_42 rfl (lv_at hl 0 rfl) ?_
    refine W.widen (k := 1) (n := 2) (Nat.le_of_ble_eq_true rfl) (Nat.le_of_ble_eq_true rfl) ?_
    exact W.iret (v := iZ (σ 0 p1)) hx hb hr9 (fun t ht hW => ⟨⟨congrArg (fun z : Int => Outcome.returned (some (Value.int (iZ z)))) (show (σ 0 p1) = (if ex2 (!inb ((p1 : Nat) : Int) 0 3) (!inb yy (-999999999) 999999999) = 0 then (σ 0 p1) else 0) from by rw [if_pos hZ]; done), gY_cast ⟨r_2, hr, hrA, by rw [ht]; exact va_Pl hP⟩ (show (sU (sU σ 0 p1 ((yy))) 1 p1 (((σ 1 p1)))) = (if ex2 (!inb ((p1 : Nat) : Int) 0 3) (!inb yy (-999999999) 999999999) = 0 then (sU (sU σ 0 p1 yy) 1 p1 (σ 1 p1)) else σ) from by rw [if_pos hZ]; done) (show (0) = ex2 (!inb ((p1 : Nat) : Int) 0 3) (!inb yy (-999999999) 999999999) from hZ.symm)⟩, hS.F ht⟩) hS.2.2 dX3_leafYear_43
  · have hX : ex2 (!inb z1 0 3) (!inb yy (-999999999) 999999999) = ex2 (!inb ((z1)) 0 3) (!inb ((yy)) (-999999999) 999999999) := by first | rfl | simp only [Bool.true_or, Bool.or_true, Bool.false_or, Bool.or_false, Bool.not_true, Bool.not_false]
    have hN : ¬ ex2 (!inb z1 0 3) (!inb yy (-999999999) 999999999) = 0 := kf_ne hX c_1
    refine lv_iconst (v := iZ 0) hx hb dX3_leafYear_16 rfl ?_
    refine W.widen (k := 1) (n := 2) (Nat.le_of_ble_eq_true rfl) (Nat.le_of_ble_eq_true rfl) ?_
    exact W.iret (v := iZ 0) hx hb hr9 (fun t ht hW => ⟨⟨congrArg (fun z : Int => Outcome.returned (some (Value.int (iZ z)))) (show 0 = (if ex2 (!inb z1 0 3) (!inb yy (-999999999) 999999999) = 0 then (σ 0 (z1.toNat)) else 0) from by rw [if_neg hN]), gY_cast ⟨r0, hr, hrA, by rw [ht]; exact va_Pl hP⟩ (show (σ) = (if ex2 (!inb z1 0 3) (!inb yy (-999999999) 999999999) = 0 then (sU (sU σ 0 z1.toNat yy) 1 z1.toNat (σ 1 (z1.toNat))) else σ) from by rw [if_neg hN]) (show (ex2 ((!inb ((z1)) 0 3)) ((!inb ((yy)) (-999999999) 999999999))) = ex2 (!inb z1 0 3) (!inb yy (-999999999) 999999999) from hX.symm)⟩, hS.F ht⟩) hS.2.2 dX3_leafYear_17

abbrev ww_X3_leafMonth : List Cond := .code yX3_leafMonth cX3_leafMonth 4 (some .int) :: gT
set_option maxHeartbeats 4000000 in
set_option maxRecDepth 100000 in
theorem c_X3_leafMonth (l : Launch) (dC : Nat → ClassId) (dI : Nat → Nat → Nat) (dA : Nat → ClassId) (k : Nat → Nat) (m0 : Nat) (r0 : Nat → Nat → Nat) (σ : Nat → Nat → Int) (th : Int) (H0 : Heap) (hP : va_P (dC, dI) vwCl (kY dA m0 r0 σ th) H0) (hr : kRI m0 r0 k) (hOK : kOK σ) (z1 : Int) (mo : Int) (rz1 : -2147483648 ≤ z1 ∧ z1 < 2147483648) (rmo : -2147483648 ≤ mo ∧ mo < 2147483648) : Met l yX3_leafMonth ww_X3_leafMonth ({ frames := 5, cells := 1, slots := 2, locals := 109 }) (va_Pc [.ref m0, .int (iZ z1), .int (iZ mo)] (fun U => U.heap = H0 ∧ kM dC dI dA k U)) (kQ2 (some (.int (iZ (if ex2 (!inb z1 0 3) (!inb mo 1 12) = 0 then (σ 1 (z1.toNat)) else 0)))) (gY dC dI dA k m0 r0 H0.size (if ex2 (!inb z1 0 3) (!inb mo 1 12) = 0 then (sU (sU σ 0 z1.toNat (σ 0 (z1.toNat))) 1 z1.toNat mo) else σ) (ex2 (!inb z1 0 3) (!inb mo 1 12))) (kAy m0 r0 H0.size)) 1 2 (kAy m0 r0 H0.size) := by
  refine Met.ofW (cc := cX3_leafMonth) (maxL := 4) (ret := (some .int)) (by decide) rfl ?_
  intro p e s m args below meth c s₁ B hml hv
  obtain ⟨rfl, hH, hM⟩ := hv
  subst hH
  have hr0 := hr
  have hAN : ∀ a, kAy m0 r0 s.heap.size a → k 0 ≤ a := fun a h => kAy_N hr0 hM.2.1.1 a h
  have hrA : ∀ i : Nat, i < 17 → kAy m0 r0 s.heap.size (kR m0 r0 i) := fun i hi => Or.inl ⟨i, hi, rfl⟩
  have hD : va_D (kAy m0 r0 s.heap.size) (kY dA m0 r0 σ (th) ++ ([] : va_W)) := by rw [← kap]; exact kYD_A hr hrA
  have hP : va_P (dC, dI) vwCl (kY dA m0 r0 σ (th) ++ ([] : va_W)) s.heap := hP
  have hS : va_S (kAy m0 r0 s.heap.size) s.heap s.heap [] := va_S.rf
  have hx := B.exec
  have hb := B.bytes
  have hr9 := B.returns
  have hts := atoms_spec (ws := ww_X3_leafMonth) B.pre
  have hown : s.vm.findClass RX3 = some m.cls := findClass_of_methodNamed B.named
  have hlocks := B.notSynchronized
  have hl := lv_entry ([.ref m0, .int (iZ z1), .int (iZ mo)]) (n := 4) (Nat.le_of_ble_eq_true rfl)
  rw [lg_entry_eq]
  generalize (lg_sl ([.ref m0, .int (iZ z1), .int (iZ mo)]) ++ List.replicate (4 - (lg_sl ([.ref m0, .int (iZ z1), .int (iZ mo)])).length) Slot.unset).toArray = ls at hl ⊢
  have hl : lv_has ls 4 [(0, .ref m0), (1, .int (iZ z1)), (2, .int (iZ mo))] := hl
  refine lv_aload_n hx hb dX3_leafMonth_0 rfl (lv_at hl 0 rfl) ?_
  refine lv_iload_n hx hb dX3_leafMonth_1 rfl (lv_at hl 1 rfl) ?_
  refine kc0 (fun _ q => q) (va_runS (As := [.int (iZ z1)]) (rest := [.ref m0]) ⟨hx, hb, hml, hown, hts⟩ (c_X3_isNo l _ (z1) (by first | omega | (unfold sgn; (try split) <;> omega))) (va_cwS 1 hts (kg_S mw1021 mw1022 mw47 rfl mw1023) rfl rfl rfl hdS_X3_isNo ⟨Nat.le_of_ble_eq_true rfl, Nat.le_of_ble_eq_true rfl⟩) ⟨fun a U g mk q => q, fun U hU hW => ⟨rfl, hU⟩⟩ rfl rfl hl.1 rfl (lv_room (Nat.le_of_ble_eq_true rfl)) dX3_leafMonth_2 ⟨Nat.le_of_ble_eq_true rfl, Nat.le_of_ble_eq_true rfl⟩) ?_
  refine lv_iload_n hx hb dX3_leafMonth_5 rfl (lv_at hl 2 rfl) ?_
  refine kc0 (fun _ q => q) (va_runS (As := [.int (iZ mo)]) (rest := [.int (iZ (bZ (!inb ((z1)) 0 3))), .ref m0]) ⟨hx, hb, hml, hown, hts⟩ (c_X3_isNoMonth l _ (mo) (by first | omega | (unfold sgn; (try split) <;> omega))) (va_cwS 1 hts (kg_S mw1033 mw1034 mw47 rfl mw1035) rfl rfl rfl hdS_X3_isNoMonth ⟨Nat.le_of_ble_eq_true rfl, Nat.le_of_ble_eq_true rfl⟩) ⟨fun a U g mk q => q, fun U hU hW => ⟨rfl, hU⟩⟩ rfl rfl hl.1 rfl (lv_room (Nat.le_of_ble_eq_true rfl)) dX3_leafMonth_6 ⟨Nat.le_of_ble_eq_true rfl, Nat.le_of_ble_eq_true rfl⟩) ?_
  refine kc2 (va_runV (As := [.int (iZ (bZ (!inb ((z1)) 0 3))), .int (iZ (bZ (!inb ((mo)) 1 12)))]) (rest := []) ⟨hx, hb, hml, hown, hts⟩ (c_X3_fails l dC dI dA k m0 (r0) (σ) (th) _ (va_Pl hP) hr hOK (!inb ((z1)) 0 3) (!inb ((mo)) 1 12) ) (cwV 2 hts (kg_V mw1037 mw1038 mw27 mw47 rfl mw1039) rfl rfl rfl hdV_X3_fails ⟨Nat.le_of_ble_eq_true rfl, Nat.le_of_ble_eq_true rfl⟩) ⟨fun a U g mk q => ⟨q.1, q.2.1, kM_call q.2.2⟩, va_recv hM.1 hP (ci := 6) (q0 := 0) rfl rfl, fun U hU hW => ⟨rfl, hU, kM_kept hM hS hAN hU hW⟩⟩ rfl rfl hl.1 rfl (lv_room (Nat.le_of_ble_eq_true rfl)) dX3_leafMonth_9 ⟨Nat.le_of_ble_eq_true rfl, Nat.le_of_ble_eq_true rfl⟩) hS (fun a _ h => kAy_tr hrA hS.1 a h) (fun a h => kAy_tr hrA hS.1 a h) (fun H locs hP9 hz9 hk9 hS => ?_)
  have hP : va_P (dC, dI) vwCl (kY dA m0 r0 σ (ex2 ((!inb ((z1)) 0 3)) ((!inb ((mo)) 1 12))) ++ ([] : va_W)) _ := hP9
  have hD : va_D (kAy m0 r0 s.heap.size) (kY dA m0 r0 σ (ex2 ((!inb ((z1)) 0 3)) ((!inb ((mo)) 1 12))) ++ ([] : va_W)) := by rw [← kap]; exact kYD_A hr hrA
  refine kz_ifb_eq (tgt := 17) hx hb  dX3_leafMonth_12 (by decide) (fun c_1 => ?_) (fun c_1 => ?_)
  · have hX : ex2 (!inb z1 0 3) (!inb mo 1 12) = ex2 (!inb ((z1)) 0 3) (!inb ((mo)) 1 12) := by first | rfl | simp only [Bool.true_or, Bool.or_true, Bool.false_or, Bool.or_false, Bool.not_true, Bool.not_false]
    have hZ : ex2 (!inb z1 0 3) (!inb mo 1 12) = 0 := kf_eq hX c_1
    obtain ⟨hA9, hB9⟩ := ex2_z hZ
    simp only [Bool.or_eq_false_iff, Bool.not_eq_false', Bool.not_eq_true', inb, decide_eq_true_eq, decide_eq_false_iff_not, noThing_niff] at hA9
    simp only [Bool.or_eq_false_iff, Bool.not_eq_false', Bool.not_eq_true', inb, decide_eq_true_eq, decide_eq_false_iff_not, noThing_niff] at hB9
    obtain ⟨p1, hp1, rfl⟩ : ∃ p1 : Nat, p1 < 4 ∧ z1 = (p1 : Int) := ⟨z1.toNat, by omega, by omega⟩
    have o_p1 := kOKr hOK hp1
    have l_p1 := mlen_rng (leap (σ 0 p1)) (σ 1 p1)
    have n_p1 := dnum_rng (y := σ 5 p1) (m := σ 6 p1) (d := σ 7 p1) (by omega) (by omega) (by omega)
    have hP := kY0 hP (kf_e c_1)
    have hD := kD0 hD (kf_e c_1)
    refine lv_aload_n hx hb dX3_leafMonth_17 rfl (lv_at hl 0 rfl) ?_
    refine va_get (D := (dC, dI)) (ci := 6) (v := .ref (r0 0 1)) (C := RX3) (T := TX3) (N := 6) hx hb hts (fun w h => List.mem_cons_of_mem _ (gF_2_in h)) hown hM.1 hP 0 rfl rfl 0 (by decide) (hts _ (List.mem_cons_of_mem _ mw1007)) (fun _ h9 => h9) rfl dX3_leafMonth_18 ?_
    refine lv_iload_n hx hb dX3_leafMonth_21 rfl (lv_at hl 1 rfl) ?_
    refine kz_aald (v := r0 1 p1) hx hb hM.1 hP 1 rfl (by omega) (by decide) rfl dX3_leafMonth_22 ?_
    refine lv_iconst (v := iZ 1) hx hb dX3_leafMonth_23 rfl ?_
    refine kz_iald (v := σ 1 p1) hx hb hM.1 hP (5 + p1) 0 (kY_L _ hp1) rfl (by omega) (by decide) rfl dX3_leafMonth_24 ?_
    refine lv_istore_n (lv' := [(3, .int (iZ (σ 1 p1))), (0, .ref m0), (1, .int (iZ ((p1 : Nat) : Int))), (2, .int (iZ mo))]) hx hb dX3_leafMonth_25 rfl hl (by decide) rfl (fun ls hl => ?_)
    refine lv_aload_n hx hb dX3_leafMonth_26 rfl (lv_at hl 1 rfl) ?_
    refine lv_iload_n hx hb dX3_leafMonth_27 rfl (lv_at hl 2 rfl) ?_
    refine lv_aload_n hx hb dX3_leafMonth_28 rfl (lv_at hl 1 rfl) ?_
    refine va_get (D := (dC, dI)) (ci := 6) (v := .ref (r0 0 1)) (C := RX3) (T := TX3) (N := 6) hx hb hts (fun w h => List.mem_cons_of_mem _ (gF_2_in h)) hown hM.1 hP 0 rfl rfl 0 (by decide) (hts _ (List.mem_cons_of_mem _ mw1007)) (fun _ h9 => h9) rfl dX3_leafMonth_29 ?_
    refine lv_iload_n hx hb dX3_leafMonth_32 rfl (lv_at hl 2 rfl) ?_
    refine kz_aald (v := r0 1 p1) hx hb hM.1 hP 1 rfl (by omega) (by decide) rfl dX3_leafMonth_33 ?_
    refine lv_iconst (v := iZ 0) hx hb dX3_leafMonth_34 rfl ?_
    refine kz_iald (v := σ 0 p1) hx hb hM.1 hP (5 + p1) 0 (kY_L _ hp1) rfl (by omega) (by decide) rfl dX3_leafMonth_35 ?_
    refine lv_iload_n hx hb dX3_leafMonth_36 rfl (lv_at hl 3 rfl) ?_
    refine kc2 (va_runV (As := [.int (iZ ((p1 : Nat) : Int)), .int (iZ (σ 0 p1)), .int (iZ mo)]) (rest := []) ⟨hx, hb, hml, hown, hts⟩ (c_X3_putLeaf l dC dI dA k m0 (r0) (σ) (0) _ (va_Pl hP) hr hOK p1 ((σ 0 p1)) (mo) hp1 (by first | omega | (unfold sgn; (try split) <;> omega)) (by first | omega | (unfold sgn; (try split) <;> omega))) (cwV 3 hts (kg_V mw1040 mw1041 mw28 mw47 rfl mw1042) rfl rfl rfl hdV_X3_putLeaf ⟨Nat.le_of_ble_eq_true rfl, Nat.le_of_ble_eq_true rfl⟩) ⟨fun a U g mk q => ⟨q.1, q.2.1, kM_call q.2.2⟩, va_recv hM.1 hP (ci := 6) (q0 := 0) rfl rfl, fun U hU hW => ⟨rfl, hU, kM_kept hM hS hAN hU hW⟩⟩ rfl rfl hl.1 rfl (lv_room (Nat.le_of_ble_eq_true rfl)) dX3_leafMonth_37 ⟨Nat.le_of_ble_eq_true rfl, Nat.le_of_ble_eq_true rfl⟩) hS (fun a _ h => kAy_tr hrA hS.1 a h) (fun a h => kAy_tr hrA hS.1 a h) (fun H locs hG hz9 hk9 hS9 => ?_)
    obtain ⟨r_2, hr, hrA9, hP⟩ := hG
    have hrA := kAy_tr2 hrA hS.1 hrA9
    have hS := hS9
    have hP : va_P (dC, dI) vwCl (kY dA m0 r_2 (sU (sU σ 0 p1 (((σ 0 p1)))) 1 p1 ((mo))) (0) ++ ([] : va_W)) _ := hP
    have hD : va_D (kAy m0 r0 s.heap.size) (kY dA m0 r_2 (sU (sU σ 0 p1 (((σ 0 p1)))) 1 p1 ((mo))) (0) ++ ([] : va_W)) := by rw [← kap]; exact kYD_A hr hrA
    refine lv_pop hx hb dX3_leafMonth_40 rfl ?_
    refine lv_iload_n hx hb dX3_leafMonth_41 rfl (lv_at hl 0 rfl) ?_
    refine W.widen (k := 1) (n := 2) (Nat.le_of_ble_eq_true rfl) (Nat.le_of_ble_eq_true rfl) ?_
    exact W.iret (v := iZ (σ 1 p1)) hx hb hr9 (fun t ht hW => ⟨⟨congrArg (fun z : Int => Outcome.returned (some (Value.int (iZ z)))) (show (σ 1 p1) = (if ex2 (!inb ((p1 : Nat) : Int) 0 3) (!inb mo 1 12) = 0 then (σ 1 p1) else 0) from by rw [if_pos hZ]; done), gY_cast ⟨r_2, hr, hrA, by rw [ht]; exact va_Pl hP⟩ (show (sU (sU σ 0 p1 (((σ 0 p1)))) 1 p1 ((mo))) = (if ex2 (!inb ((p1 : Nat) : Int) 0 3) (!inb mo 1 12) = 0 then (sU (sU σ 0 p1 (σ 0 p1)) 1 p1 mo) else σ) from by rw [if_pos hZ]; done) (show (0) = ex2 (!inb ((p1 : Nat) : Int) 0 3) (!inb mo 1 12) from hZ.symm)⟩, hS.F ht⟩) hS.2.2 dX3_leafMonth_42
  · have hX : ex2 (!inb z1 0 3) (!inb mo 1 12) = ex2 (!inb ((z1)) 0 3) (!inb ((mo)) 1 12) := by first | rfl | simp only [Bool.true_or, Bool.or_true, Bool.false_or, Bool.or_false, Bool.not_true, Bool.not_false]
    have hN : ¬ ex2 (!inb z1 0 3) (!inb mo 1 12) = 0 := kf_ne hX c_1
    refine lv_iconst (v := iZ 0) hx hb dX3_leafMonth_15 rfl ?_
    refine W.widen (k := 1) (n := 2) (Nat.le_of_ble_eq_true rfl) (Nat.le_of_ble_eq_true rfl) ?_
    exact W.iret (v := iZ 0) hx hb hr9 (fun t ht hW => ⟨⟨congrArg (fun z : Int => Outcome.returned (some (Value.int (iZ z)))) (show 0 = (if ex2 (!inb z1 0 3) (!inb mo 1 12) = 0 then (σ 1 (z1.toNat)) else 0) from by rw [if_neg hN]), gY_cast ⟨r0, hr, hrA, by rw [ht]; exact va_Pl hP⟩ (show (σ) = (if ex2 (!inb z1 0 3) (!inb mo 1 12) = 0 then (sU (sU σ 0 z1.toNat (σ 0 (z1.toNat))) 1 z1.toNat mo) else σ) from by rw [if_neg hN]) (show (ex2 ((!inb ((z1)) 0 3)) ((!inb ((mo)) 1 12))) = ex2 (!inb z1 0 3) (!inb mo 1 12) from hX.symm)⟩, hS.F ht⟩) hS.2.2 dX3_leafMonth_16

abbrev ww_X3_leafOf : List Cond := .code yX3_leafOf cX3_leafOf 4 (some .int) :: gT
set_option maxHeartbeats 4000000 in
set_option maxRecDepth 100000 in
theorem c_X3_leafOf (l : Launch) (dC : Nat → ClassId) (dI : Nat → Nat → Nat) (dA : Nat → ClassId) (k : Nat → Nat) (m0 : Nat) (r0 : Nat → Nat → Nat) (σ : Nat → Nat → Int) (th : Int) (H0 : Heap) (hP : va_P (dC, dI) vwCl (kY dA m0 r0 σ th) H0) (hr : kRI m0 r0 k) (hOK : kOK σ) (z1 : Int) (z2 : Int) (mo : Int) (rz1 : -2147483648 ≤ z1 ∧ z1 < 2147483648) (rz2 : -2147483648 ≤ z2 ∧ z2 < 2147483648) (rmo : -2147483648 ≤ mo ∧ mo < 2147483648) : Met l yX3_leafOf ww_X3_leafOf ({ frames := 5, cells := 1, slots := 2, locals := 109 }) (va_Pc [.ref m0, .int (iZ z1), .int (iZ z2), .int (iZ mo)] (fun U => U.heap = H0 ∧ kM dC dI dA k U)) (kQ2 (some (.int (iZ (if ex2 (!inb z1 0 3 || !inb z2 0 3) (!inb mo 1 12) = 0 then (mlen (leap (σ 2 (z2.toNat))) mo) else 0)))) (gY dC dI dA k m0 r0 H0.size (if ex2 (!inb z1 0 3 || !inb z2 0 3) (!inb mo 1 12) = 0 then (sU (sU σ 0 z1.toNat (σ 2 (z2.toNat))) 1 z1.toNat mo) else σ) (ex2 (!inb z1 0 3 || !inb z2 0 3) (!inb mo 1 12))) (kAy m0 r0 H0.size)) 1 2 (kAy m0 r0 H0.size) := by
  refine Met.ofW (cc := cX3_leafOf) (maxL := 4) (ret := (some .int)) (by decide) rfl ?_
  intro p e s m args below meth c s₁ B hml hv
  obtain ⟨rfl, hH, hM⟩ := hv
  subst hH
  have hr0 := hr
  have hAN : ∀ a, kAy m0 r0 s.heap.size a → k 0 ≤ a := fun a h => kAy_N hr0 hM.2.1.1 a h
  have hrA : ∀ i : Nat, i < 17 → kAy m0 r0 s.heap.size (kR m0 r0 i) := fun i hi => Or.inl ⟨i, hi, rfl⟩
  have hD : va_D (kAy m0 r0 s.heap.size) (kY dA m0 r0 σ (th) ++ ([] : va_W)) := by rw [← kap]; exact kYD_A hr hrA
  have hP : va_P (dC, dI) vwCl (kY dA m0 r0 σ (th) ++ ([] : va_W)) s.heap := hP
  have hS : va_S (kAy m0 r0 s.heap.size) s.heap s.heap [] := va_S.rf
  have hx := B.exec
  have hb := B.bytes
  have hr9 := B.returns
  have hts := atoms_spec (ws := ww_X3_leafOf) B.pre
  have hown : s.vm.findClass RX3 = some m.cls := findClass_of_methodNamed B.named
  have hlocks := B.notSynchronized
  have hl := lv_entry ([.ref m0, .int (iZ z1), .int (iZ z2), .int (iZ mo)]) (n := 4) (Nat.le_of_ble_eq_true rfl)
  rw [lg_entry_eq]
  generalize (lg_sl ([.ref m0, .int (iZ z1), .int (iZ z2), .int (iZ mo)]) ++ List.replicate (4 - (lg_sl ([.ref m0, .int (iZ z1), .int (iZ z2), .int (iZ mo)])).length) Slot.unset).toArray = ls at hl ⊢
  have hl : lv_has ls 4 [(0, .ref m0), (1, .int (iZ z1)), (2, .int (iZ z2)), (3, .int (iZ mo))] := hl
  refine lv_aload_n hx hb dX3_leafOf_0 rfl (lv_at hl 0 rfl) ?_
  refine lv_iload_n hx hb dX3_leafOf_1 rfl (lv_at hl 1 rfl) ?_
  refine kc0 (fun _ q => q) (va_runS (As := [.int (iZ z1)]) (rest := [.ref m0]) ⟨hx, hb, hml, hown, hts⟩ (c_X3_isNo l _ (z1) (by first | omega | (unfold sgn; (try split) <;> omega))) (va_cwS 1 hts (kg_S mw1021 mw1022 mw47 rfl mw1023) rfl rfl rfl hdS_X3_isNo ⟨Nat.le_of_ble_eq_true rfl, Nat.le_of_ble_eq_true rfl⟩) ⟨fun a U g mk q => q, fun U hU hW => ⟨rfl, hU⟩⟩ rfl rfl hl.1 rfl (lv_room (Nat.le_of_ble_eq_true rfl)) dX3_leafOf_2 ⟨Nat.le_of_ble_eq_true rfl, Nat.le_of_ble_eq_true rfl⟩) ?_
  refine kz_ifb_ne (tgt := 15) hx hb  dX3_leafOf_5 (by decide) (fun c_1 => ?_) (fun c_1 => ?_)
  · refine lv_iconst (v := iZ 1) hx hb dX3_leafOf_15 rfl ?_
    refine lv_goto (tgt := 20) hx hb dX3_leafOf_16 (by decide) ?_
    refine lv_iload_n hx hb dX3_leafOf_20 rfl (lv_at hl 3 rfl) ?_
    refine kc0 (fun _ q => q) (va_runS (As := [.int (iZ mo)]) (rest := [.int (iZ 1), .ref m0]) ⟨hx, hb, hml, hown, hts⟩ (c_X3_isNoMonth l _ (mo) (by first | omega | (unfold sgn; (try split) <;> omega))) (va_cwS 1 hts (kg_S mw1033 mw1034 mw47 rfl mw1035) rfl rfl rfl hdS_X3_isNoMonth ⟨Nat.le_of_ble_eq_true rfl, Nat.le_of_ble_eq_true rfl⟩) ⟨fun a U g mk q => q, fun U hU hW => ⟨rfl, hU⟩⟩ rfl rfl hl.1 rfl (lv_room (Nat.le_of_ble_eq_true rfl)) dX3_leafOf_21 ⟨Nat.le_of_ble_eq_true rfl, Nat.le_of_ble_eq_true rfl⟩) ?_
    refine kc2 (va_runV (As := [.int (iZ (bZ true)), .int (iZ (bZ (!inb ((mo)) 1 12)))]) (rest := []) ⟨hx, hb, hml, hown, hts⟩ (c_X3_fails l dC dI dA k m0 (r0) (σ) (th) _ (va_Pl hP) hr hOK true (!inb ((mo)) 1 12) ) (cwV 2 hts (kg_V mw1037 mw1038 mw27 mw47 rfl mw1039) rfl rfl rfl hdV_X3_fails ⟨Nat.le_of_ble_eq_true rfl, Nat.le_of_ble_eq_true rfl⟩) ⟨fun a U g mk q => ⟨q.1, q.2.1, kM_call q.2.2⟩, va_recv hM.1 hP (ci := 6) (q0 := 0) rfl rfl, fun U hU hW => ⟨rfl, hU, kM_kept hM hS hAN hU hW⟩⟩ rfl rfl hl.1 rfl (lv_room (Nat.le_of_ble_eq_true rfl)) dX3_leafOf_24 ⟨Nat.le_of_ble_eq_true rfl, Nat.le_of_ble_eq_true rfl⟩) hS (fun a _ h => kAy_tr hrA hS.1 a h) (fun a h => kAy_tr hrA hS.1 a h) (fun H locs hP9 hz9 hk9 hS => ?_)
    have hP : va_P (dC, dI) vwCl (kY dA m0 r0 σ (ex2 true ((!inb ((mo)) 1 12))) ++ ([] : va_W)) _ := hP9
    have hD : va_D (kAy m0 r0 s.heap.size) (kY dA m0 r0 σ (ex2 true ((!inb ((mo)) 1 12))) ++ ([] : va_W)) := by rw [← kap]; exact kYD_A hr hrA
    refine kz_ifb_eq (tgt := 34) hx hb  dX3_leafOf_27 (by decide) (fun c_2 => absurd (kf_f c_2).1 (by decide)) (fun c_2 => ?_)
    have hX : ex2 (!inb z1 0 3 || !inb z2 0 3) (!inb mo 1 12) = ex2 true (!inb ((mo)) 1 12) := by first | rfl | simp only [c_1, Bool.true_or, Bool.or_true, Bool.false_or, Bool.or_false, Bool.not_true, Bool.not_false]
    have hN : ¬ ex2 (!inb z1 0 3 || !inb z2 0 3) (!inb mo 1 12) = 0 := kf_ne hX c_2
    refine lv_iconst (v := iZ 0) hx hb dX3_leafOf_30 rfl ?_
    refine lv_goto (tgt := 46) hx hb dX3_leafOf_31 (by decide) ?_
    refine W.widen (k := 1) (n := 2) (Nat.le_of_ble_eq_true rfl) (Nat.le_of_ble_eq_true rfl) ?_
    exact W.iret (v := iZ 0) hx hb hr9 (fun t ht hW => ⟨⟨congrArg (fun z : Int => Outcome.returned (some (Value.int (iZ z)))) (show 0 = (if ex2 (!inb z1 0 3 || !inb z2 0 3) (!inb mo 1 12) = 0 then (mlen (leap (σ 2 (z2.toNat))) mo) else 0) from by rw [if_neg hN]), gY_cast ⟨r0, hr, hrA, by rw [ht]; exact va_Pl hP⟩ (show (σ) = (if ex2 (!inb z1 0 3 || !inb z2 0 3) (!inb mo 1 12) = 0 then (sU (sU σ 0 z1.toNat (σ 2 (z2.toNat))) 1 z1.toNat mo) else σ) from by rw [if_neg hN]) (show (ex2 true ((!inb ((mo)) 1 12))) = ex2 (!inb z1 0 3 || !inb z2 0 3) (!inb mo 1 12) from hX.symm)⟩, hS.F ht⟩) hS.2.2 dX3_leafOf_46
  · refine lv_iload_n hx hb dX3_leafOf_8 rfl (lv_at hl 2 rfl) ?_
    refine kc0 (fun _ q => q) (va_runS (As := [.int (iZ z2)]) (rest := [.ref m0]) ⟨hx, hb, hml, hown, hts⟩ (c_X3_isNo l _ (z2) (by first | omega | (unfold sgn; (try split) <;> omega))) (va_cwS 1 hts (kg_S mw1021 mw1022 mw47 rfl mw1023) rfl rfl rfl hdS_X3_isNo ⟨Nat.le_of_ble_eq_true rfl, Nat.le_of_ble_eq_true rfl⟩) ⟨fun a U g mk q => q, fun U hU hW => ⟨rfl, hU⟩⟩ rfl rfl hl.1 rfl (lv_room (Nat.le_of_ble_eq_true rfl)) dX3_leafOf_9 ⟨Nat.le_of_ble_eq_true rfl, Nat.le_of_ble_eq_true rfl⟩) ?_
    refine kz_ifb_eq (tgt := 19) hx hb  dX3_leafOf_12 (by decide) (fun c_3 => ?_) (fun c_3 => ?_)
    · refine lv_iconst (v := iZ 0) hx hb dX3_leafOf_19 rfl ?_
      refine lv_iload_n hx hb dX3_leafOf_20 rfl (lv_at hl 3 rfl) ?_
      refine kc0 (fun _ q => q) (va_runS (As := [.int (iZ mo)]) (rest := [.int (iZ 0), .ref m0]) ⟨hx, hb, hml, hown, hts⟩ (c_X3_isNoMonth l _ (mo) (by first | omega | (unfold sgn; (try split) <;> omega))) (va_cwS 1 hts (kg_S mw1033 mw1034 mw47 rfl mw1035) rfl rfl rfl hdS_X3_isNoMonth ⟨Nat.le_of_ble_eq_true rfl, Nat.le_of_ble_eq_true rfl⟩) ⟨fun a U g mk q => q, fun U hU hW => ⟨rfl, hU⟩⟩ rfl rfl hl.1 rfl (lv_room (Nat.le_of_ble_eq_true rfl)) dX3_leafOf_21 ⟨Nat.le_of_ble_eq_true rfl, Nat.le_of_ble_eq_true rfl⟩) ?_
      refine kc2 (va_runV (As := [.int (iZ (bZ false)), .int (iZ (bZ (!inb ((mo)) 1 12)))]) (rest := []) ⟨hx, hb, hml, hown, hts⟩ (c_X3_fails l dC dI dA k m0 (r0) (σ) (th) _ (va_Pl hP) hr hOK false (!inb ((mo)) 1 12) ) (cwV 2 hts (kg_V mw1037 mw1038 mw27 mw47 rfl mw1039) rfl rfl rfl hdV_X3_fails ⟨Nat.le_of_ble_eq_true rfl, Nat.le_of_ble_eq_true rfl⟩) ⟨fun a U g mk q => ⟨q.1, q.2.1, kM_call q.2.2⟩, va_recv hM.1 hP (ci := 6) (q0 := 0) rfl rfl, fun U hU hW => ⟨rfl, hU, kM_kept hM hS hAN hU hW⟩⟩ rfl rfl hl.1 rfl (lv_room (Nat.le_of_ble_eq_true rfl)) dX3_leafOf_24 ⟨Nat.le_of_ble_eq_true rfl, Nat.le_of_ble_eq_true rfl⟩) hS (fun a _ h => kAy_tr hrA hS.1 a h) (fun a h => kAy_tr hrA hS.1 a h) (fun H locs hP9 hz9 hk9 hS => ?_)
      have hP : va_P (dC, dI) vwCl (kY dA m0 r0 σ (ex2 false ((!inb ((mo)) 1 12))) ++ ([] : va_W)) _ := hP9
      have hD : va_D (kAy m0 r0 s.heap.size) (kY dA m0 r0 σ (ex2 false ((!inb ((mo)) 1 12))) ++ ([] : va_W)) := by rw [← kap]; exact kYD_A hr hrA
      refine kz_ifb_eq (tgt := 34) hx hb  dX3_leafOf_27 (by decide) (fun c_4 => ?_) (fun c_4 => ?_)
      · have hX : ex2 (!inb z1 0 3 || !inb z2 0 3) (!inb mo 1 12) = ex2 false (!inb ((mo)) 1 12) := by first | rfl | simp only [c_1, c_3, Bool.true_or, Bool.or_true, Bool.false_or, Bool.or_false, Bool.not_true, Bool.not_false]
        have hZ : ex2 (!inb z1 0 3 || !inb z2 0 3) (!inb mo 1 12) = 0 := kf_eq hX c_4
        obtain ⟨hA9, hB9⟩ := ex2_z hZ
        simp only [Bool.or_eq_false_iff, Bool.not_eq_false', Bool.not_eq_true', inb, decide_eq_true_eq, decide_eq_false_iff_not, noThing_niff] at hA9
        simp only [Bool.or_eq_false_iff, Bool.not_eq_false', Bool.not_eq_true', inb, decide_eq_true_eq, decide_eq_false_iff_not, noThing_niff] at hB9
        obtain ⟨p1, hp1, rfl⟩ : ∃ p1 : Nat, p1 < 4 ∧ z1 = (p1 : Int) := ⟨z1.toNat, by omega, by omega⟩
        have o_p1 := kOKr hOK hp1
        have l_p1 := mlen_rng (leap (σ 0 p1)) (σ 1 p1)
        have n_p1 := dnum_rng (y := σ 5 p1) (m := σ 6 p1) (d := σ 7 p1) (by omega) (by omega) (by omega)
        obtain ⟨p2, hp2, rfl⟩ : ∃ p2 : Nat, p2 < 4 ∧ z2 = (p2 : Int) := ⟨z2.toNat, by omega, by omega⟩
        have o_p2 := kOKr hOK hp2
        have l_p2 := mlen_rng (leap (σ 0 p2)) (σ 1 p2)
        have n_p2 := dnum_rng (y := σ 5 p2) (m := σ 6 p2) (d := σ 7 p2) (by omega) (by omega) (by omega)
        have hP := kY0 hP (kf_e c_4)
        have hD := kD0 hD (kf_e c_4)
        refine lv_aload_n hx hb dX3_leafOf_34 rfl (lv_at hl 0 rfl) ?_
        refine lv_iload_n hx hb dX3_leafOf_35 rfl (lv_at hl 1 rfl) ?_
        refine lv_aload_n hx hb dX3_leafOf_36 rfl (lv_at hl 0 rfl) ?_
        refine va_get (D := (dC, dI)) (ci := 6) (v := .ref (r0 0 2)) (C := RX3) (T := TX3) (N := 6) hx hb hts (fun w h => List.mem_cons_of_mem _ (gF_2_in h)) hown hM.1 hP 0 rfl rfl 1 (by decide) (hts _ (List.mem_cons_of_mem _ mw1008)) (fun _ h9 => h9) rfl dX3_leafOf_37 ?_
        refine lv_iload_n hx hb dX3_leafOf_40 rfl (lv_at hl 2 rfl) ?_
        refine kz_iald (v := σ 2 p2) hx hb hM.1 hP 2 0 rfl rfl (by omega) (by decide) rfl dX3_leafOf_41 ?_
        refine lv_iload_n hx hb dX3_leafOf_42 rfl (lv_at hl 3 rfl) ?_
        refine kc2 (va_runV (As := [.int (iZ ((p1 : Nat) : Int)), .int (iZ (σ 2 p2)), .int (iZ mo)]) (rest := []) ⟨hx, hb, hml, hown, hts⟩ (c_X3_putLeaf l dC dI dA k m0 (r0) (σ) (0) _ (va_Pl hP) hr hOK p1 ((σ 2 p2)) (mo) hp1 (by first | omega | (unfold sgn; (try split) <;> omega)) (by first | omega | (unfold sgn; (try split) <;> omega))) (cwV 3 hts (kg_V mw1040 mw1041 mw28 mw47 rfl mw1042) rfl rfl rfl hdV_X3_putLeaf ⟨Nat.le_of_ble_eq_true rfl, Nat.le_of_ble_eq_true rfl⟩) ⟨fun a U g mk q => ⟨q.1, q.2.1, kM_call q.2.2⟩, va_recv hM.1 hP (ci := 6) (q0 := 0) rfl rfl, fun U hU hW => ⟨rfl, hU, kM_kept hM hS hAN hU hW⟩⟩ rfl rfl hl.1 rfl (lv_room (Nat.le_of_ble_eq_true rfl)) dX3_leafOf_43 ⟨Nat.le_of_ble_eq_true rfl, Nat.le_of_ble_eq_true rfl⟩) hS (fun a _ h => kAy_tr hrA hS.1 a h) (fun a h => kAy_tr hrA hS.1 a h) (fun H locs hG hz9 hk9 hS9 => ?_)
        obtain ⟨r_5, hr, hrA9, hP⟩ := hG
        have hrA := kAy_tr2 hrA hS.1 hrA9
        have hS := hS9
        have hP : va_P (dC, dI) vwCl (kY dA m0 r_5 (sU (sU σ 0 p1 (((σ 2 p2)))) 1 p1 ((mo))) (0) ++ ([] : va_W)) _ := hP
        have hD : va_D (kAy m0 r0 s.heap.size) (kY dA m0 r_5 (sU (sU σ 0 p1 (((σ 2 p2)))) 1 p1 ((mo))) (0) ++ ([] : va_W)) := by rw [← kap]; exact kYD_A hr hrA
        refine W.widen (k := 1) (n := 2) (Nat.le_of_ble_eq_true rfl) (Nat.le_of_ble_eq_true rfl) ?_
        exact W.iret (v := iZ (mlen (leap (((σ 2 p2)))) ((mo)))) hx hb hr9 (fun t ht hW => ⟨⟨congrArg (fun z : Int => Outcome.returned (some (Value.int (iZ z)))) (show (mlen (leap (((σ 2 p2)))) ((mo))) = (if ex2 (!inb ((p1 : Nat) : Int) 0 3 || !inb ((p2 : Nat) : Int) 0 3) (!inb mo 1 12) = 0 then (mlen (leap (σ 2 p2)) mo) else 0) from by rw [if_pos hZ]; done), gY_cast ⟨r_5, hr, hrA, by rw [ht]; exact va_Pl hP⟩ (show (sU (sU σ 0 p1 (((σ 2 p2)))) 1 p1 ((mo))) = (if ex2 (!inb ((p1 : Nat) : Int) 0 3 || !inb ((p2 : Nat) : Int) 0 3) (!inb mo 1 12) = 0 then (sU (sU σ 0 p1 (σ 2 p2)) 1 p1 mo) else σ) from by rw [if_pos hZ]; done) (show (0) = ex2 (!inb ((p1 : Nat) : Int) 0 3 || !inb ((p2 : Nat) : Int) 0 3) (!inb mo 1 12) from hZ.symm)⟩, hS.F ht⟩) hS.2.2 dX3_leafOf_46
      · have hX : ex2 (!inb z1 0 3 || !inb z2 0 3) (!inb mo 1 12) = ex2 false (!inb ((mo)) 1 12) := by first | rfl | simp only [c_1, c_3, Bool.true_or, Bool.or_true, Bool.false_or, Bool.or_false, Bool.not_true, Bool.not_false]
        have hN : ¬ ex2 (!inb z1 0 3 || !inb z2 0 3) (!inb mo 1 12) = 0 := kf_ne hX c_4
        refine lv_iconst (v := iZ 0) hx hb dX3_leafOf_30 rfl ?_
        refine lv_goto (tgt := 46) hx hb dX3_leafOf_31 (by decide) ?_
        refine W.widen (k := 1) (n := 2) (Nat.le_of_ble_eq_true rfl) (Nat.le_of_ble_eq_true rfl) ?_
        exact W.iret (v := iZ 0) hx hb hr9 (fun t ht hW => ⟨⟨congrArg (fun z : Int => Outcome.returned (some (Value.int (iZ z)))) (show 0 = (if ex2 (!inb z1 0 3 || !inb z2 0 3) (!inb mo 1 12) = 0 then (mlen (leap (σ 2 (z2.toNat))) mo) else 0) from by rw [if_neg hN]), gY_cast ⟨r0, hr, hrA, by rw [ht]; exact va_Pl hP⟩ (show (σ) = (if ex2 (!inb z1 0 3 || !inb z2 0 3) (!inb mo 1 12) = 0 then (sU (sU σ 0 z1.toNat (σ 2 (z2.toNat))) 1 z1.toNat mo) else σ) from by rw [if_neg hN]) (show (ex2 false ((!inb ((mo)) 1 12))) = ex2 (!inb z1 0 3 || !inb z2 0 3) (!inb mo 1 12) from hX.symm)⟩, hS.F ht⟩) hS.2.2 dX3_leafOf_46
    · refine lv_iconst (v := iZ 1) hx hb dX3_leafOf_15 rfl ?_
      refine lv_goto (tgt := 20) hx hb dX3_leafOf_16 (by decide) ?_
      refine lv_iload_n hx hb dX3_leafOf_20 rfl (lv_at hl 3 rfl) ?_
      refine kc0 (fun _ q => q) (va_runS (As := [.int (iZ mo)]) (rest := [.int (iZ 1), .ref m0]) ⟨hx, hb, hml, hown, hts⟩ (c_X3_isNoMonth l _ (mo) (by first | omega | (unfold sgn; (try split) <;> omega))) (va_cwS 1 hts (kg_S mw1033 mw1034 mw47 rfl mw1035) rfl rfl rfl hdS_X3_isNoMonth ⟨Nat.le_of_ble_eq_true rfl, Nat.le_of_ble_eq_true rfl⟩) ⟨fun a U g mk q => q, fun U hU hW => ⟨rfl, hU⟩⟩ rfl rfl hl.1 rfl (lv_room (Nat.le_of_ble_eq_true rfl)) dX3_leafOf_21 ⟨Nat.le_of_ble_eq_true rfl, Nat.le_of_ble_eq_true rfl⟩) ?_
      refine kc2 (va_runV (As := [.int (iZ (bZ true)), .int (iZ (bZ (!inb ((mo)) 1 12)))]) (rest := []) ⟨hx, hb, hml, hown, hts⟩ (c_X3_fails l dC dI dA k m0 (r0) (σ) (th) _ (va_Pl hP) hr hOK true (!inb ((mo)) 1 12) ) (cwV 2 hts (kg_V mw1037 mw1038 mw27 mw47 rfl mw1039) rfl rfl rfl hdV_X3_fails ⟨Nat.le_of_ble_eq_true rfl, Nat.le_of_ble_eq_true rfl⟩) ⟨fun a U g mk q => ⟨q.1, q.2.1, kM_call q.2.2⟩, va_recv hM.1 hP (ci := 6) (q0 := 0) rfl rfl, fun U hU hW => ⟨rfl, hU, kM_kept hM hS hAN hU hW⟩⟩ rfl rfl hl.1 rfl (lv_room (Nat.le_of_ble_eq_true rfl)) dX3_leafOf_24 ⟨Nat.le_of_ble_eq_true rfl, Nat.le_of_ble_eq_true rfl⟩) hS (fun a _ h => kAy_tr hrA hS.1 a h) (fun a h => kAy_tr hrA hS.1 a h) (fun H locs hP9 hz9 hk9 hS => ?_)
      have hP : va_P (dC, dI) vwCl (kY dA m0 r0 σ (ex2 true ((!inb ((mo)) 1 12))) ++ ([] : va_W)) _ := hP9
      have hD : va_D (kAy m0 r0 s.heap.size) (kY dA m0 r0 σ (ex2 true ((!inb ((mo)) 1 12))) ++ ([] : va_W)) := by rw [← kap]; exact kYD_A hr hrA
      refine kz_ifb_eq (tgt := 34) hx hb  dX3_leafOf_27 (by decide) (fun c_6 => absurd (kf_f c_6).1 (by decide)) (fun c_6 => ?_)
      have hX : ex2 (!inb z1 0 3 || !inb z2 0 3) (!inb mo 1 12) = ex2 true (!inb ((mo)) 1 12) := by first | rfl | simp only [c_1, c_3, Bool.true_or, Bool.or_true, Bool.false_or, Bool.or_false, Bool.not_true, Bool.not_false]
      have hN : ¬ ex2 (!inb z1 0 3 || !inb z2 0 3) (!inb mo 1 12) = 0 := kf_ne hX c_6
      refine lv_iconst (v := iZ 0) hx hb dX3_leafOf_30 rfl ?_
      refine lv_goto (tgt := 46) hx hb dX3_leafOf_31 (by decide) ?_
      refine W.widen (k := 1) (n := 2) (Nat.le_of_ble_eq_true rfl) (Nat.le_of_ble_eq_true rfl) ?_
      exact W.iret (v := iZ 0) hx hb hr9 (fun t ht hW => ⟨⟨congrArg (fun z : Int => Outcome.returned (some (Value.int (iZ z)))) (show 0 = (if ex2 (!inb z1 0 3 || !inb z2 0 3) (!inb mo 1 12) = 0 then (mlen (leap (σ 2 (z2.toNat))) mo) else 0) from by rw [if_neg hN]), gY_cast ⟨r0, hr, hrA, by rw [ht]; exact va_Pl hP⟩ (show (σ) = (if ex2 (!inb z1 0 3 || !inb z2 0 3) (!inb mo 1 12) = 0 then (sU (sU σ 0 z1.toNat (σ 2 (z2.toNat))) 1 z1.toNat mo) else σ) from by rw [if_neg hN]) (show (ex2 true ((!inb ((mo)) 1 12))) = ex2 (!inb z1 0 3 || !inb z2 0 3) (!inb mo 1 12) from hX.symm)⟩, hS.F ht⟩) hS.2.2 dX3_leafOf_46

abbrev ww_X3_leafOfRound : List Cond := .code yX3_leafOfRound cX3_leafOfRound 4 (some .int) :: gT
set_option maxHeartbeats 4000000 in
set_option maxRecDepth 100000 in
theorem c_X3_leafOfRound (l : Launch) (dC : Nat → ClassId) (dI : Nat → Nat → Nat) (dA : Nat → ClassId) (k : Nat → Nat) (m0 : Nat) (r0 : Nat → Nat → Nat) (σ : Nat → Nat → Int) (th : Int) (H0 : Heap) (hP : va_P (dC, dI) vwCl (kY dA m0 r0 σ th) H0) (hr : kRI m0 r0 k) (hOK : kOK σ) (z1 : Int) (z2 : Int) (mm : Int) (rz1 : -2147483648 ≤ z1 ∧ z1 < 2147483648) (rz2 : -2147483648 ≤ z2 ∧ z2 < 2147483648) (rmm : -2147483648 ≤ mm ∧ mm < 2147483648) : Met l yX3_leafOfRound ww_X3_leafOfRound ({ frames := 5, cells := 1, slots := 2, locals := 109 }) (va_Pc [.ref m0, .int (iZ z1), .int (iZ z2), .int (iZ mm)] (fun U => U.heap = H0 ∧ kM dC dI dA k U)) (kQ2 (some (.int (iZ (if ex2 (!inb z1 0 3 || !inb z2 0 3) (false) = 0 then (1 + mm % 12) else 0)))) (gY dC dI dA k m0 r0 H0.size (if ex2 (!inb z1 0 3 || !inb z2 0 3) (false) = 0 then (sU (sU σ 0 z1.toNat (σ 2 (z2.toNat))) 1 z1.toNat (1 + mm % 12)) else σ) (ex2 (!inb z1 0 3 || !inb z2 0 3) (false))) (kAy m0 r0 H0.size)) 1 2 (kAy m0 r0 H0.size) := by
  refine Met.ofW (cc := cX3_leafOfRound) (maxL := 4) (ret := (some .int)) (by decide) rfl ?_
  intro p e s m args below meth c s₁ B hml hv
  obtain ⟨rfl, hH, hM⟩ := hv
  subst hH
  have hr0 := hr
  have hAN : ∀ a, kAy m0 r0 s.heap.size a → k 0 ≤ a := fun a h => kAy_N hr0 hM.2.1.1 a h
  have hrA : ∀ i : Nat, i < 17 → kAy m0 r0 s.heap.size (kR m0 r0 i) := fun i hi => Or.inl ⟨i, hi, rfl⟩
  have hD : va_D (kAy m0 r0 s.heap.size) (kY dA m0 r0 σ (th) ++ ([] : va_W)) := by rw [← kap]; exact kYD_A hr hrA
  have hP : va_P (dC, dI) vwCl (kY dA m0 r0 σ (th) ++ ([] : va_W)) s.heap := hP
  have hS : va_S (kAy m0 r0 s.heap.size) s.heap s.heap [] := va_S.rf
  have hx := B.exec
  have hb := B.bytes
  have hr9 := B.returns
  have hts := atoms_spec (ws := ww_X3_leafOfRound) B.pre
  have hown : s.vm.findClass RX3 = some m.cls := findClass_of_methodNamed B.named
  have hlocks := B.notSynchronized
  have hl := lv_entry ([.ref m0, .int (iZ z1), .int (iZ z2), .int (iZ mm)]) (n := 4) (Nat.le_of_ble_eq_true rfl)
  rw [lg_entry_eq]
  generalize (lg_sl ([.ref m0, .int (iZ z1), .int (iZ z2), .int (iZ mm)]) ++ List.replicate (4 - (lg_sl ([.ref m0, .int (iZ z1), .int (iZ z2), .int (iZ mm)])).length) Slot.unset).toArray = ls at hl ⊢
  have hl : lv_has ls 4 [(0, .ref m0), (1, .int (iZ z1)), (2, .int (iZ z2)), (3, .int (iZ mm))] := hl
  refine lv_aload_n hx hb dX3_leafOfRound_0 rfl (lv_at hl 0 rfl) ?_
  refine lv_iload_n hx hb dX3_leafOfRound_1 rfl (lv_at hl 1 rfl) ?_
  refine kc0 (fun _ q => q) (va_runS (As := [.int (iZ z1)]) (rest := [.ref m0]) ⟨hx, hb, hml, hown, hts⟩ (c_X3_isNo l _ (z1) (by first | omega | (unfold sgn; (try split) <;> omega))) (va_cwS 1 hts (kg_S mw1021 mw1022 mw47 rfl mw1023) rfl rfl rfl hdS_X3_isNo ⟨Nat.le_of_ble_eq_true rfl, Nat.le_of_ble_eq_true rfl⟩) ⟨fun a U g mk q => q, fun U hU hW => ⟨rfl, hU⟩⟩ rfl rfl hl.1 rfl (lv_room (Nat.le_of_ble_eq_true rfl)) dX3_leafOfRound_2 ⟨Nat.le_of_ble_eq_true rfl, Nat.le_of_ble_eq_true rfl⟩) ?_
  refine kz_ifb_ne (tgt := 15) hx hb  dX3_leafOfRound_5 (by decide) (fun c_1 => ?_) (fun c_1 => ?_)
  · refine lv_iconst (v := iZ 1) hx hb dX3_leafOfRound_15 rfl ?_
    refine lv_goto (tgt := 20) hx hb dX3_leafOfRound_16 (by decide) ?_
    refine lv_iconst (v := iZ 0) hx hb dX3_leafOfRound_20 rfl ?_
    refine kc2 (va_runV (As := [.int (iZ (bZ true)), .int (iZ (bZ false))]) (rest := []) ⟨hx, hb, hml, hown, hts⟩ (c_X3_fails l dC dI dA k m0 (r0) (σ) (th) _ (va_Pl hP) hr hOK true false ) (cwV 2 hts (kg_V mw1037 mw1038 mw27 mw47 rfl mw1039) rfl rfl rfl hdV_X3_fails ⟨Nat.le_of_ble_eq_true rfl, Nat.le_of_ble_eq_true rfl⟩) ⟨fun a U g mk q => ⟨q.1, q.2.1, kM_call q.2.2⟩, va_recv hM.1 hP (ci := 6) (q0 := 0) rfl rfl, fun U hU hW => ⟨rfl, hU, kM_kept hM hS hAN hU hW⟩⟩ rfl rfl hl.1 rfl (lv_room (Nat.le_of_ble_eq_true rfl)) dX3_leafOfRound_21 ⟨Nat.le_of_ble_eq_true rfl, Nat.le_of_ble_eq_true rfl⟩) hS (fun a _ h => kAy_tr hrA hS.1 a h) (fun a h => kAy_tr hrA hS.1 a h) (fun H locs hP9 hz9 hk9 hS => ?_)
    have hP : va_P (dC, dI) vwCl (kY dA m0 r0 σ (ex2 true false) ++ ([] : va_W)) _ := hP9
    have hD : va_D (kAy m0 r0 s.heap.size) (kY dA m0 r0 σ (ex2 true false) ++ ([] : va_W)) := by rw [← kap]; exact kYD_A hr hrA
    refine kz_ifb_eq (tgt := 29) hx hb  dX3_leafOfRound_24 (by decide) (fun c_2 => absurd (kf_f c_2).1 (by decide)) (fun c_2 => ?_)
    have hX : ex2 (!inb z1 0 3 || !inb z2 0 3) (false) = ex2 true false := by first | rfl | simp only [c_1, Bool.true_or, Bool.or_true, Bool.false_or, Bool.or_false, Bool.not_true, Bool.not_false]
    have hN : ¬ ex2 (!inb z1 0 3 || !inb z2 0 3) (false) = 0 := kf_ne hX c_2
    refine lv_iconst (v := iZ 0) hx hb dX3_leafOfRound_27 rfl ?_
    refine W.widen (k := 1) (n := 2) (Nat.le_of_ble_eq_true rfl) (Nat.le_of_ble_eq_true rfl) ?_
    exact W.iret (v := iZ 0) hx hb hr9 (fun t ht hW => ⟨⟨congrArg (fun z : Int => Outcome.returned (some (Value.int (iZ z)))) (show 0 = (if ex2 (!inb z1 0 3 || !inb z2 0 3) (false) = 0 then (1 + mm % 12) else 0) from by rw [if_neg hN]), gY_cast ⟨r0, hr, hrA, by rw [ht]; exact va_Pl hP⟩ (show (σ) = (if ex2 (!inb z1 0 3 || !inb z2 0 3) (false) = 0 then (sU (sU σ 0 z1.toNat (σ 2 (z2.toNat))) 1 z1.toNat (1 + mm % 12)) else σ) from by rw [if_neg hN]) (show (ex2 true false) = ex2 (!inb z1 0 3 || !inb z2 0 3) (false) from hX.symm)⟩, hS.F ht⟩) hS.2.2 dX3_leafOfRound_28
  · refine lv_iload_n hx hb dX3_leafOfRound_8 rfl (lv_at hl 2 rfl) ?_
    refine kc0 (fun _ q => q) (va_runS (As := [.int (iZ z2)]) (rest := [.ref m0]) ⟨hx, hb, hml, hown, hts⟩ (c_X3_isNo l _ (z2) (by first | omega | (unfold sgn; (try split) <;> omega))) (va_cwS 1 hts (kg_S mw1021 mw1022 mw47 rfl mw1023) rfl rfl rfl hdS_X3_isNo ⟨Nat.le_of_ble_eq_true rfl, Nat.le_of_ble_eq_true rfl⟩) ⟨fun a U g mk q => q, fun U hU hW => ⟨rfl, hU⟩⟩ rfl rfl hl.1 rfl (lv_room (Nat.le_of_ble_eq_true rfl)) dX3_leafOfRound_9 ⟨Nat.le_of_ble_eq_true rfl, Nat.le_of_ble_eq_true rfl⟩) ?_
    refine kz_ifb_eq (tgt := 19) hx hb  dX3_leafOfRound_12 (by decide) (fun c_3 => ?_) (fun c_3 => ?_)
    · refine lv_iconst (v := iZ 0) hx hb dX3_leafOfRound_19 rfl ?_
      refine lv_iconst (v := iZ 0) hx hb dX3_leafOfRound_20 rfl ?_
      refine kc2 (va_runV (As := [.int (iZ (bZ false)), .int (iZ (bZ false))]) (rest := []) ⟨hx, hb, hml, hown, hts⟩ (c_X3_fails l dC dI dA k m0 (r0) (σ) (th) _ (va_Pl hP) hr hOK false false ) (cwV 2 hts (kg_V mw1037 mw1038 mw27 mw47 rfl mw1039) rfl rfl rfl hdV_X3_fails ⟨Nat.le_of_ble_eq_true rfl, Nat.le_of_ble_eq_true rfl⟩) ⟨fun a U g mk q => ⟨q.1, q.2.1, kM_call q.2.2⟩, va_recv hM.1 hP (ci := 6) (q0 := 0) rfl rfl, fun U hU hW => ⟨rfl, hU, kM_kept hM hS hAN hU hW⟩⟩ rfl rfl hl.1 rfl (lv_room (Nat.le_of_ble_eq_true rfl)) dX3_leafOfRound_21 ⟨Nat.le_of_ble_eq_true rfl, Nat.le_of_ble_eq_true rfl⟩) hS (fun a _ h => kAy_tr hrA hS.1 a h) (fun a h => kAy_tr hrA hS.1 a h) (fun H locs hP9 hz9 hk9 hS => ?_)
      have hP : va_P (dC, dI) vwCl (kY dA m0 r0 σ (ex2 false false) ++ ([] : va_W)) _ := hP9
      have hD : va_D (kAy m0 r0 s.heap.size) (kY dA m0 r0 σ (ex2 false false) ++ ([] : va_W)) := by rw [← kap]; exact kYD_A hr hrA
      refine kz_ifb_eq (tgt := 29) hx hb  dX3_leafOfRound_24 (by decide) (fun c_4 => ?_) (fun c_4 => absurd (show ex2 false false = 0 from rfl) (kf_t c_4))
      have hX : ex2 (!inb z1 0 3 || !inb z2 0 3) (false) = ex2 false false := by first | rfl | simp only [c_1, c_3, Bool.true_or, Bool.or_true, Bool.false_or, Bool.or_false, Bool.not_true, Bool.not_false]
      have hZ : ex2 (!inb z1 0 3 || !inb z2 0 3) (false) = 0 := kf_eq hX c_4
      obtain ⟨hA9, hB9⟩ := ex2_z hZ
      simp only [Bool.or_eq_false_iff, Bool.not_eq_false', Bool.not_eq_true', inb, decide_eq_true_eq, decide_eq_false_iff_not, noThing_niff] at hA9
      obtain ⟨p1, hp1, rfl⟩ : ∃ p1 : Nat, p1 < 4 ∧ z1 = (p1 : Int) := ⟨z1.toNat, by omega, by omega⟩
      have o_p1 := kOKr hOK hp1
      have l_p1 := mlen_rng (leap (σ 0 p1)) (σ 1 p1)
      have n_p1 := dnum_rng (y := σ 5 p1) (m := σ 6 p1) (d := σ 7 p1) (by omega) (by omega) (by omega)
      obtain ⟨p2, hp2, rfl⟩ : ∃ p2 : Nat, p2 < 4 ∧ z2 = (p2 : Int) := ⟨z2.toNat, by omega, by omega⟩
      have o_p2 := kOKr hOK hp2
      have l_p2 := mlen_rng (leap (σ 0 p2)) (σ 1 p2)
      have n_p2 := dnum_rng (y := σ 5 p2) (m := σ 6 p2) (d := σ 7 p2) (by omega) (by omega) (by omega)
      have hP := kY0 hP (kf_e c_4)
      have hD := kD0 hD (kf_e c_4)
      refine lv_aload_n hx hb dX3_leafOfRound_29 rfl (lv_at hl 0 rfl) ?_
      refine lv_iload_n hx hb dX3_leafOfRound_30 rfl (lv_at hl 1 rfl) ?_
      refine lv_aload_n hx hb dX3_leafOfRound_31 rfl (lv_at hl 0 rfl) ?_
      refine va_get (D := (dC, dI)) (ci := 6) (v := .ref (r0 0 2)) (C := RX3) (T := TX3) (N := 6) hx hb hts (fun w h => List.mem_cons_of_mem _ (gF_2_in h)) hown hM.1 hP 0 rfl rfl 1 (by decide) (hts _ (List.mem_cons_of_mem _ mw1008)) (fun _ h9 => h9) rfl dX3_leafOfRound_32 ?_
      refine lv_iload_n hx hb dX3_leafOfRound_35 rfl (lv_at hl 2 rfl) ?_
      refine kz_iald (v := σ 2 p2) hx hb hM.1 hP 2 0 rfl rfl (by omega) (by decide) rfl dX3_leafOfRound_36 ?_
      refine lv_iload_n hx hb dX3_leafOfRound_37 rfl (lv_at hl 3 rfl) ?_
      refine kc0 (fun _ q => q) (va_runS (As := [.int (iZ mm)]) (rest := [.int (iZ (σ 2 p2)), .int (iZ ((p1 : Nat) : Int)), .ref m0]) ⟨hx, hb, hml, hown, hts⟩ (c_X3_round l _ (mm) (by first | omega | (unfold sgn; (try split) <;> omega))) (va_cwS 1 hts (kg_S mw1060 mw1061 mw47 rfl mw1062) rfl rfl rfl hdS_X3_round ⟨Nat.le_of_ble_eq_true rfl, Nat.le_of_ble_eq_true rfl⟩) ⟨fun a U g mk q => q, fun U hU hW => ⟨rfl, hU⟩⟩ rfl rfl hl.1 rfl (lv_room (Nat.le_of_ble_eq_true rfl)) dX3_leafOfRound_38 ⟨Nat.le_of_ble_eq_true rfl, Nat.le_of_ble_eq_true rfl⟩) ?_
      refine kc2 (va_runV (As := [.int (iZ ((p1 : Nat) : Int)), .int (iZ (σ 2 p2)), .int (iZ (1 + ((mm)) % 12))]) (rest := []) ⟨hx, hb, hml, hown, hts⟩ (c_X3_putLeaf l dC dI dA k m0 (r0) (σ) (0) _ (va_Pl hP) hr hOK p1 ((σ 2 p2)) ((1 + ((mm)) % 12)) hp1 (by first | omega | (unfold sgn; (try split) <;> omega)) (by first | omega | (unfold sgn; (try split) <;> omega))) (cwV 3 hts (kg_V mw1040 mw1041 mw28 mw47 rfl mw1042) rfl rfl rfl hdV_X3_putLeaf ⟨Nat.le_of_ble_eq_true rfl, Nat.le_of_ble_eq_true rfl⟩) ⟨fun a U g mk q => ⟨q.1, q.2.1, kM_call q.2.2⟩, va_recv hM.1 hP (ci := 6) (q0 := 0) rfl rfl, fun U hU hW => ⟨rfl, hU, kM_kept hM hS hAN hU hW⟩⟩ rfl rfl hl.1 rfl (lv_room (Nat.le_of_ble_eq_true rfl)) dX3_leafOfRound_41 ⟨Nat.le_of_ble_eq_true rfl, Nat.le_of_ble_eq_true rfl⟩) hS (fun a _ h => kAy_tr hrA hS.1 a h) (fun a h => kAy_tr hrA hS.1 a h) (fun H locs hG hz9 hk9 hS9 => ?_)
      obtain ⟨r_5, hr, hrA9, hP⟩ := hG
      have hrA := kAy_tr2 hrA hS.1 hrA9
      have hS := hS9
      have hP : va_P (dC, dI) vwCl (kY dA m0 r_5 (sU (sU σ 0 p1 (((σ 2 p2)))) 1 p1 (((1 + ((mm)) % 12)))) (0) ++ ([] : va_W)) _ := hP
      have hD : va_D (kAy m0 r0 s.heap.size) (kY dA m0 r_5 (sU (sU σ 0 p1 (((σ 2 p2)))) 1 p1 (((1 + ((mm)) % 12)))) (0) ++ ([] : va_W)) := by rw [← kap]; exact kYD_A hr hrA
      refine lv_pop hx hb dX3_leafOfRound_44 rfl ?_
      refine lv_iload_n hx hb dX3_leafOfRound_45 rfl (lv_at hl 3 rfl) ?_
      refine kc0 (fun _ q => q) (va_runS (As := [.int (iZ mm)]) (rest := []) ⟨hx, hb, hml, hown, hts⟩ (c_X3_round l _ (mm) (by first | omega | (unfold sgn; (try split) <;> omega))) (va_cwS 1 hts (kg_S mw1060 mw1061 mw47 rfl mw1062) rfl rfl rfl hdS_X3_round ⟨Nat.le_of_ble_eq_true rfl, Nat.le_of_ble_eq_true rfl⟩) ⟨fun a U g mk q => q, fun U hU hW => ⟨rfl, hU⟩⟩ rfl rfl hl.1 rfl (lv_room (Nat.le_of_ble_eq_true rfl)) dX3_leafOfRound_46 ⟨Nat.le_of_ble_eq_true rfl, Nat.le_of_ble_eq_true rfl⟩) ?_
      refine W.widen (k := 1) (n := 2) (Nat.le_of_ble_eq_true rfl) (Nat.le_of_ble_eq_true rfl) ?_
      exact W.iret (v := iZ (1 + ((mm)) % 12)) hx hb hr9 (fun t ht hW => ⟨⟨congrArg (fun z : Int => Outcome.returned (some (Value.int (iZ z)))) (show (1 + ((mm)) % 12) = (if ex2 (!inb ((p1 : Nat) : Int) 0 3 || !inb ((p2 : Nat) : Int) 0 3) (false) = 0 then (1 + mm % 12) else 0) from by rw [if_pos hZ]; done), gY_cast ⟨r_5, hr, hrA, by rw [ht]; exact va_Pl hP⟩ (show (sU (sU σ 0 p1 (((σ 2 p2)))) 1 p1 (((1 + ((mm)) % 12)))) = (if ex2 (!inb ((p1 : Nat) : Int) 0 3 || !inb ((p2 : Nat) : Int) 0 3) (false) = 0 then (sU (sU σ 0 p1 (σ 2 p2)) 1 p1 (1 + mm % 12)) else σ) from by rw [if_pos hZ]; done) (show (0) = ex2 (!inb ((p1 : Nat) : Int) 0 3 || !inb ((p2 : Nat) : Int) 0 3) (false) from hZ.symm)⟩, hS.F ht⟩) hS.2.2 dX3_leafOfRound_49
    · refine lv_iconst (v := iZ 1) hx hb dX3_leafOfRound_15 rfl ?_
      refine lv_goto (tgt := 20) hx hb dX3_leafOfRound_16 (by decide) ?_
      refine lv_iconst (v := iZ 0) hx hb dX3_leafOfRound_20 rfl ?_
      refine kc2 (va_runV (As := [.int (iZ (bZ true)), .int (iZ (bZ false))]) (rest := []) ⟨hx, hb, hml, hown, hts⟩ (c_X3_fails l dC dI dA k m0 (r0) (σ) (th) _ (va_Pl hP) hr hOK true false ) (cwV 2 hts (kg_V mw1037 mw1038 mw27 mw47 rfl mw1039) rfl rfl rfl hdV_X3_fails ⟨Nat.le_of_ble_eq_true rfl, Nat.le_of_ble_eq_true rfl⟩) ⟨fun a U g mk q => ⟨q.1, q.2.1, kM_call q.2.2⟩, va_recv hM.1 hP (ci := 6) (q0 := 0) rfl rfl, fun U hU hW => ⟨rfl, hU, kM_kept hM hS hAN hU hW⟩⟩ rfl rfl hl.1 rfl (lv_room (Nat.le_of_ble_eq_true rfl)) dX3_leafOfRound_21 ⟨Nat.le_of_ble_eq_true rfl, Nat.le_of_ble_eq_true rfl⟩) hS (fun a _ h => kAy_tr hrA hS.1 a h) (fun a h => kAy_tr hrA hS.1 a h) (fun H locs hP9 hz9 hk9 hS => ?_)
      have hP : va_P (dC, dI) vwCl (kY dA m0 r0 σ (ex2 true false) ++ ([] : va_W)) _ := hP9
      have hD : va_D (kAy m0 r0 s.heap.size) (kY dA m0 r0 σ (ex2 true false) ++ ([] : va_W)) := by rw [← kap]; exact kYD_A hr hrA
      refine kz_ifb_eq (tgt := 29) hx hb  dX3_leafOfRound_24 (by decide) (fun c_6 => absurd (kf_f c_6).1 (by decide)) (fun c_6 => ?_)
      have hX : ex2 (!inb z1 0 3 || !inb z2 0 3) (false) = ex2 true false := by first | rfl | simp only [c_1, c_3, Bool.true_or, Bool.or_true, Bool.false_or, Bool.or_false, Bool.not_true, Bool.not_false]
      have hN : ¬ ex2 (!inb z1 0 3 || !inb z2 0 3) (false) = 0 := kf_ne hX c_6
      refine lv_iconst (v := iZ 0) hx hb dX3_leafOfRound_27 rfl ?_
      refine W.widen (k := 1) (n := 2) (Nat.le_of_ble_eq_true rfl) (Nat.le_of_ble_eq_true rfl) ?_
      exact W.iret (v := iZ 0) hx hb hr9 (fun t ht hW => ⟨⟨congrArg (fun z : Int => Outcome.returned (some (Value.int (iZ z)))) (show 0 = (if ex2 (!inb z1 0 3 || !inb z2 0 3) (false) = 0 then (1 + mm % 12) else 0) from by rw [if_neg hN]), gY_cast ⟨r0, hr, hrA, by rw [ht]; exact va_Pl hP⟩ (show (σ) = (if ex2 (!inb z1 0 3 || !inb z2 0 3) (false) = 0 then (sU (sU σ 0 z1.toNat (σ 2 (z2.toNat))) 1 z1.toNat (1 + mm % 12)) else σ) from by rw [if_neg hN]) (show (ex2 true false) = ex2 (!inb z1 0 3 || !inb z2 0 3) (false) from hX.symm)⟩, hS.F ht⟩) hS.2.2 dX3_leafOfRound_28

abbrev ww_X3_leafOfDay : List Cond := .code yX3_leafOfDay cX3_leafOfDay 3 (some .int) :: gT
set_option maxHeartbeats 4000000 in
set_option maxRecDepth 100000 in
theorem c_X3_leafOfDay (l : Launch) (dC : Nat → ClassId) (dI : Nat → Nat → Nat) (dA : Nat → ClassId) (k : Nat → Nat) (m0 : Nat) (r0 : Nat → Nat → Nat) (σ : Nat → Nat → Int) (th : Int) (H0 : Heap) (hP : va_P (dC, dI) vwCl (kY dA m0 r0 σ th) H0) (hr : kRI m0 r0 k) (hOK : kOK σ) (z1 : Int) (z2 : Int) (rz1 : -2147483648 ≤ z1 ∧ z1 < 2147483648) (rz2 : -2147483648 ≤ z2 ∧ z2 < 2147483648) : Met l yX3_leafOfDay ww_X3_leafOfDay ({ frames := 5, cells := 1, slots := 2, locals := 109 }) (va_Pc [.ref m0, .int (iZ z1), .int (iZ z2)] (fun U => U.heap = H0 ∧ kM dC dI dA k U)) (kQ2 (some (.int (iZ (if ex2 (!inb z1 0 3 || !inb z2 0 3) (false) = 0 then (mlen (leap (σ 5 (z2.toNat))) (σ 6 (z2.toNat))) else 0)))) (gY dC dI dA k m0 r0 H0.size (if ex2 (!inb z1 0 3 || !inb z2 0 3) (false) = 0 then (sU (sU σ 0 z1.toNat (σ 5 (z2.toNat))) 1 z1.toNat (σ 6 (z2.toNat))) else σ) (ex2 (!inb z1 0 3 || !inb z2 0 3) (false))) (kAy m0 r0 H0.size)) 1 2 (kAy m0 r0 H0.size) := by
  refine Met.ofW (cc := cX3_leafOfDay) (maxL := 3) (ret := (some .int)) (by decide) rfl ?_
  intro p e s m args below meth c s₁ B hml hv
  obtain ⟨rfl, hH, hM⟩ := hv
  subst hH
  have hr0 := hr
  have hAN : ∀ a, kAy m0 r0 s.heap.size a → k 0 ≤ a := fun a h => kAy_N hr0 hM.2.1.1 a h
  have hrA : ∀ i : Nat, i < 17 → kAy m0 r0 s.heap.size (kR m0 r0 i) := fun i hi => Or.inl ⟨i, hi, rfl⟩
  have hD : va_D (kAy m0 r0 s.heap.size) (kY dA m0 r0 σ (th) ++ ([] : va_W)) := by rw [← kap]; exact kYD_A hr hrA
  have hP : va_P (dC, dI) vwCl (kY dA m0 r0 σ (th) ++ ([] : va_W)) s.heap := hP
  have hS : va_S (kAy m0 r0 s.heap.size) s.heap s.heap [] := va_S.rf
  have hx := B.exec
  have hb := B.bytes
  have hr9 := B.returns
  have hts := atoms_spec (ws := ww_X3_leafOfDay) B.pre
  have hown : s.vm.findClass RX3 = some m.cls := findClass_of_methodNamed B.named
  have hlocks := B.notSynchronized
  have hl := lv_entry ([.ref m0, .int (iZ z1), .int (iZ z2)]) (n := 3) (Nat.le_of_ble_eq_true rfl)
  rw [lg_entry_eq]
  generalize (lg_sl ([.ref m0, .int (iZ z1), .int (iZ z2)]) ++ List.replicate (3 - (lg_sl ([.ref m0, .int (iZ z1), .int (iZ z2)])).length) Slot.unset).toArray = ls at hl ⊢
  have hl : lv_has ls 3 [(0, .ref m0), (1, .int (iZ z1)), (2, .int (iZ z2))] := hl
  refine lv_aload_n hx hb dX3_leafOfDay_0 rfl (lv_at hl 0 rfl) ?_
  refine lv_iload_n hx hb dX3_leafOfDay_1 rfl (lv_at hl 1 rfl) ?_
  refine kc0 (fun _ q => q) (va_runS (As := [.int (iZ z1)]) (rest := [.ref m0]) ⟨hx, hb, hml, hown, hts⟩ (c_X3_isNo l _ (z1) (by first | omega | (unfold sgn; (try split) <;> omega))) (va_cwS 1 hts (kg_S mw1021 mw1022 mw47 rfl mw1023) rfl rfl rfl hdS_X3_isNo ⟨Nat.le_of_ble_eq_true rfl, Nat.le_of_ble_eq_true rfl⟩) ⟨fun a U g mk q => q, fun U hU hW => ⟨rfl, hU⟩⟩ rfl rfl hl.1 rfl (lv_room (Nat.le_of_ble_eq_true rfl)) dX3_leafOfDay_2 ⟨Nat.le_of_ble_eq_true rfl, Nat.le_of_ble_eq_true rfl⟩) ?_
  refine kz_ifb_ne (tgt := 15) hx hb  dX3_leafOfDay_5 (by decide) (fun c_1 => ?_) (fun c_1 => ?_)
  · refine lv_iconst (v := iZ 1) hx hb dX3_leafOfDay_15 rfl ?_
    refine lv_goto (tgt := 20) hx hb dX3_leafOfDay_16 (by decide) ?_
    refine lv_iconst (v := iZ 0) hx hb dX3_leafOfDay_20 rfl ?_
    refine kc2 (va_runV (As := [.int (iZ (bZ true)), .int (iZ (bZ false))]) (rest := []) ⟨hx, hb, hml, hown, hts⟩ (c_X3_fails l dC dI dA k m0 (r0) (σ) (th) _ (va_Pl hP) hr hOK true false ) (cwV 2 hts (kg_V mw1037 mw1038 mw27 mw47 rfl mw1039) rfl rfl rfl hdV_X3_fails ⟨Nat.le_of_ble_eq_true rfl, Nat.le_of_ble_eq_true rfl⟩) ⟨fun a U g mk q => ⟨q.1, q.2.1, kM_call q.2.2⟩, va_recv hM.1 hP (ci := 6) (q0 := 0) rfl rfl, fun U hU hW => ⟨rfl, hU, kM_kept hM hS hAN hU hW⟩⟩ rfl rfl hl.1 rfl (lv_room (Nat.le_of_ble_eq_true rfl)) dX3_leafOfDay_21 ⟨Nat.le_of_ble_eq_true rfl, Nat.le_of_ble_eq_true rfl⟩) hS (fun a _ h => kAy_tr hrA hS.1 a h) (fun a h => kAy_tr hrA hS.1 a h) (fun H locs hP9 hz9 hk9 hS => ?_)
    have hP : va_P (dC, dI) vwCl (kY dA m0 r0 σ (ex2 true false) ++ ([] : va_W)) _ := hP9
    have hD : va_D (kAy m0 r0 s.heap.size) (kY dA m0 r0 σ (ex2 true false) ++ ([] : va_W)) := by rw [← kap]; exact kYD_A hr hrA
    refine kz_ifb_eq (tgt := 31) hx hb  dX3_leafOfDay_24 (by decide) (fun c_2 => absurd (kf_f c_2).1 (by decide)) (fun c_2 => ?_)
    have hX : ex2 (!inb z1 0 3 || !inb z2 0 3) (false) = ex2 true false := by first | rfl | simp only [c_1, Bool.true_or, Bool.or_true, Bool.false_or, Bool.or_false, Bool.not_true, Bool.not_false]
    have hN : ¬ ex2 (!inb z1 0 3 || !inb z2 0 3) (false) = 0 := kf_ne hX c_2
    refine lv_iconst (v := iZ 0) hx hb dX3_leafOfDay_27 rfl ?_
    refine lv_goto (tgt := 52) hx hb dX3_leafOfDay_28 (by decide) ?_
    refine W.widen (k := 1) (n := 2) (Nat.le_of_ble_eq_true rfl) (Nat.le_of_ble_eq_true rfl) ?_
    exact W.iret (v := iZ 0) hx hb hr9 (fun t ht hW => ⟨⟨congrArg (fun z : Int => Outcome.returned (some (Value.int (iZ z)))) (show 0 = (if ex2 (!inb z1 0 3 || !inb z2 0 3) (false) = 0 then (mlen (leap (σ 5 (z2.toNat))) (σ 6 (z2.toNat))) else 0) from by rw [if_neg hN]), gY_cast ⟨r0, hr, hrA, by rw [ht]; exact va_Pl hP⟩ (show (σ) = (if ex2 (!inb z1 0 3 || !inb z2 0 3) (false) = 0 then (sU (sU σ 0 z1.toNat (σ 5 (z2.toNat))) 1 z1.toNat (σ 6 (z2.toNat))) else σ) from by rw [if_neg hN]) (show (ex2 true false) = ex2 (!inb z1 0 3 || !inb z2 0 3) (false) from hX.symm)⟩, hS.F ht⟩) hS.2.2 dX3_leafOfDay_52
  · refine lv_iload_n hx hb dX3_leafOfDay_8 rfl (lv_at hl 2 rfl) ?_
    refine kc0 (fun _ q => q) (va_runS (As := [.int (iZ z2)]) (rest := [.ref m0]) ⟨hx, hb, hml, hown, hts⟩ (c_X3_isNo l _ (z2) (by first | omega | (unfold sgn; (try split) <;> omega))) (va_cwS 1 hts (kg_S mw1021 mw1022 mw47 rfl mw1023) rfl rfl rfl hdS_X3_isNo ⟨Nat.le_of_ble_eq_true rfl, Nat.le_of_ble_eq_true rfl⟩) ⟨fun a U g mk q => q, fun U hU hW => ⟨rfl, hU⟩⟩ rfl rfl hl.1 rfl (lv_room (Nat.le_of_ble_eq_true rfl)) dX3_leafOfDay_9 ⟨Nat.le_of_ble_eq_true rfl, Nat.le_of_ble_eq_true rfl⟩) ?_
    refine kz_ifb_eq (tgt := 19) hx hb  dX3_leafOfDay_12 (by decide) (fun c_3 => ?_) (fun c_3 => ?_)
    · refine lv_iconst (v := iZ 0) hx hb dX3_leafOfDay_19 rfl ?_
      refine lv_iconst (v := iZ 0) hx hb dX3_leafOfDay_20 rfl ?_
      refine kc2 (va_runV (As := [.int (iZ (bZ false)), .int (iZ (bZ false))]) (rest := []) ⟨hx, hb, hml, hown, hts⟩ (c_X3_fails l dC dI dA k m0 (r0) (σ) (th) _ (va_Pl hP) hr hOK false false ) (cwV 2 hts (kg_V mw1037 mw1038 mw27 mw47 rfl mw1039) rfl rfl rfl hdV_X3_fails ⟨Nat.le_of_ble_eq_true rfl, Nat.le_of_ble_eq_true rfl⟩) ⟨fun a U g mk q => ⟨q.1, q.2.1, kM_call q.2.2⟩, va_recv hM.1 hP (ci := 6) (q0 := 0) rfl rfl, fun U hU hW => ⟨rfl, hU, kM_kept hM hS hAN hU hW⟩⟩ rfl rfl hl.1 rfl (lv_room (Nat.le_of_ble_eq_true rfl)) dX3_leafOfDay_21 ⟨Nat.le_of_ble_eq_true rfl, Nat.le_of_ble_eq_true rfl⟩) hS (fun a _ h => kAy_tr hrA hS.1 a h) (fun a h => kAy_tr hrA hS.1 a h) (fun H locs hP9 hz9 hk9 hS => ?_)
      have hP : va_P (dC, dI) vwCl (kY dA m0 r0 σ (ex2 false false) ++ ([] : va_W)) _ := hP9
      have hD : va_D (kAy m0 r0 s.heap.size) (kY dA m0 r0 σ (ex2 false false) ++ ([] : va_W)) := by rw [← kap]; exact kYD_A hr hrA
      refine kz_ifb_eq (tgt := 31) hx hb  dX3_leafOfDay_24 (by decide) (fun c_4 => ?_) (fun c_4 => absurd (show ex2 false false = 0 from rfl) (kf_t c_4))
      have hX : ex2 (!inb z1 0 3 || !inb z2 0 3) (false) = ex2 false false := by first | rfl | simp only [c_1, c_3, Bool.true_or, Bool.or_true, Bool.false_or, Bool.or_false, Bool.not_true, Bool.not_false]
      have hZ : ex2 (!inb z1 0 3 || !inb z2 0 3) (false) = 0 := kf_eq hX c_4
      obtain ⟨hA9, hB9⟩ := ex2_z hZ
      simp only [Bool.or_eq_false_iff, Bool.not_eq_false', Bool.not_eq_true', inb, decide_eq_true_eq, decide_eq_false_iff_not, noThing_niff] at hA9
      obtain ⟨p1, hp1, rfl⟩ : ∃ p1 : Nat, p1 < 4 ∧ z1 = (p1 : Int) := ⟨z1.toNat, by omega, by omega⟩
      have o_p1 := kOKr hOK hp1
      have l_p1 := mlen_rng (leap (σ 0 p1)) (σ 1 p1)
      have n_p1 := dnum_rng (y := σ 5 p1) (m := σ 6 p1) (d := σ 7 p1) (by omega) (by omega) (by omega)
      obtain ⟨p2, hp2, rfl⟩ : ∃ p2 : Nat, p2 < 4 ∧ z2 = (p2 : Int) := ⟨z2.toNat, by omega, by omega⟩
      have o_p2 := kOKr hOK hp2
      have l_p2 := mlen_rng (leap (σ 0 p2)) (σ 1 p2)
      have n_p2 := dnum_rng (y := σ 5 p2) (m := σ 6 p2) (d := σ 7 p2) (by omega) (by omega) (by omega)
      have hP := kY0 hP (kf_e c_4)
      have hD := kD0 hD (kf_e c_4)
      refine lv_aload_n hx hb dX3_leafOfDay_31 rfl (lv_at hl 0 rfl) ?_
      refine lv_iload_n hx hb dX3_leafOfDay_32 rfl (lv_at hl 1 rfl) ?_
      refine lv_aload_n hx hb dX3_leafOfDay_33 rfl (lv_at hl 0 rfl) ?_
      refine va_get (D := (dC, dI)) (ci := 6) (v := .ref (r0 0 4)) (C := RX3) (T := TX3) (N := 6) hx hb hts (fun w h => List.mem_cons_of_mem _ (gF_2_in h)) hown hM.1 hP 0 rfl rfl 3 (by decide) (hts _ (List.mem_cons_of_mem _ mw1010)) (fun _ h9 => h9) rfl dX3_leafOfDay_34 ?_
      refine lv_iload_n hx hb dX3_leafOfDay_37 rfl (lv_at hl 2 rfl) ?_
      refine kz_aald (v := r0 3 p2) hx hb hM.1 hP 4 rfl (by omega) (by decide) rfl dX3_leafOfDay_38 ?_
      refine lv_iconst (v := iZ 0) hx hb dX3_leafOfDay_39 rfl ?_
      refine kz_iald (v := σ 5 p2) hx hb hM.1 hP (13 + p2) 0 (kY_D _ hp2) rfl (by omega) (by decide) rfl dX3_leafOfDay_40 ?_
      refine lv_aload_n hx hb dX3_leafOfDay_41 rfl (lv_at hl 0 rfl) ?_
      refine va_get (D := (dC, dI)) (ci := 6) (v := .ref (r0 0 4)) (C := RX3) (T := TX3) (N := 6) hx hb hts (fun w h => List.mem_cons_of_mem _ (gF_2_in h)) hown hM.1 hP 0 rfl rfl 3 (by decide) (hts _ (List.mem_cons_of_mem _ mw1010)) (fun _ h9 => h9) rfl dX3_leafOfDay_42 ?_
      refine lv_iload_n hx hb dX3_leafOfDay_45 rfl (lv_at hl 2 rfl) ?_
      refine kz_aald (v := r0 3 p2) hx hb hM.1 hP 4 rfl (by omega) (by decide) rfl dX3_leafOfDay_46 ?_
      refine lv_iconst (v := iZ 1) hx hb dX3_leafOfDay_47 rfl ?_
      refine kz_iald (v := σ 6 p2) hx hb hM.1 hP (13 + p2) 0 (kY_D _ hp2) rfl (by omega) (by decide) rfl dX3_leafOfDay_48 ?_
      refine kc2 (va_runV (As := [.int (iZ ((p1 : Nat) : Int)), .int (iZ (σ 5 p2)), .int (iZ (σ 6 p2))]) (rest := []) ⟨hx, hb, hml, hown, hts⟩ (c_X3_putLeaf l dC dI dA k m0 (r0) (σ) (0) _ (va_Pl hP) hr hOK p1 ((σ 5 p2)) ((σ 6 p2)) hp1 (by first | omega | (unfold sgn; (try split) <;> omega)) (by first | omega | (unfold sgn; (try split) <;> omega))) (cwV 3 hts (kg_V mw1040 mw1041 mw28 mw47 rfl mw1042) rfl rfl rfl hdV_X3_putLeaf ⟨Nat.le_of_ble_eq_true rfl, Nat.le_of_ble_eq_true rfl⟩) ⟨fun a U g mk q => ⟨q.1, q.2.1, kM_call q.2.2⟩, va_recv hM.1 hP (ci := 6) (q0 := 0) rfl rfl, fun U hU hW => ⟨rfl, hU, kM_kept hM hS hAN hU hW⟩⟩ rfl rfl hl.1 rfl (lv_room (Nat.le_of_ble_eq_true rfl)) dX3_leafOfDay_49 ⟨Nat.le_of_ble_eq_true rfl, Nat.le_of_ble_eq_true rfl⟩) hS (fun a _ h => kAy_tr hrA hS.1 a h) (fun a h => kAy_tr hrA hS.1 a h) (fun H locs hG hz9 hk9 hS9 => ?_)
      obtain ⟨r_5, hr, hrA9, hP⟩ := hG
      have hrA := kAy_tr2 hrA hS.1 hrA9
      have hS := hS9
      have hP : va_P (dC, dI) vwCl (kY dA m0 r_5 (sU (sU σ 0 p1 (((σ 5 p2)))) 1 p1 (((σ 6 p2)))) (0) ++ ([] : va_W)) _ := hP
      have hD : va_D (kAy m0 r0 s.heap.size) (kY dA m0 r_5 (sU (sU σ 0 p1 (((σ 5 p2)))) 1 p1 (((σ 6 p2)))) (0) ++ ([] : va_W)) := by rw [← kap]; exact kYD_A hr hrA
      refine W.widen (k := 1) (n := 2) (Nat.le_of_ble_eq_true rfl) (Nat.le_of_ble_eq_true rfl) ?_
      exact W.iret (v := iZ (mlen (leap (((σ 5 p2)))) (((σ 6 p2))))) hx hb hr9 (fun t ht hW => ⟨⟨congrArg (fun z : Int => Outcome.returned (some (Value.int (iZ z)))) (show (mlen (leap (((σ 5 p2)))) (((σ 6 p2)))) = (if ex2 (!inb ((p1 : Nat) : Int) 0 3 || !inb ((p2 : Nat) : Int) 0 3) (false) = 0 then (mlen (leap (σ 5 p2)) (σ 6 p2)) else 0) from by rw [if_pos hZ]; done), gY_cast ⟨r_5, hr, hrA, by rw [ht]; exact va_Pl hP⟩ (show (sU (sU σ 0 p1 (((σ 5 p2)))) 1 p1 (((σ 6 p2)))) = (if ex2 (!inb ((p1 : Nat) : Int) 0 3 || !inb ((p2 : Nat) : Int) 0 3) (false) = 0 then (sU (sU σ 0 p1 (σ 5 p2)) 1 p1 (σ 6 p2)) else σ) from by rw [if_pos hZ]; done) (show (0) = ex2 (!inb ((p1 : Nat) : Int) 0 3 || !inb ((p2 : Nat) : Int) 0 3) (false) from hZ.symm)⟩, hS.F ht⟩) hS.2.2 dX3_leafOfDay_52
    · refine lv_iconst (v := iZ 1) hx hb dX3_leafOfDay_15 rfl ?_
      refine lv_goto (tgt := 20) hx hb dX3_leafOfDay_16 (by decide) ?_
      refine lv_iconst (v := iZ 0) hx hb dX3_leafOfDay_20 rfl ?_
      refine kc2 (va_runV (As := [.int (iZ (bZ true)), .int (iZ (bZ false))]) (rest := []) ⟨hx, hb, hml, hown, hts⟩ (c_X3_fails l dC dI dA k m0 (r0) (σ) (th) _ (va_Pl hP) hr hOK true false ) (cwV 2 hts (kg_V mw1037 mw1038 mw27 mw47 rfl mw1039) rfl rfl rfl hdV_X3_fails ⟨Nat.le_of_ble_eq_true rfl, Nat.le_of_ble_eq_true rfl⟩) ⟨fun a U g mk q => ⟨q.1, q.2.1, kM_call q.2.2⟩, va_recv hM.1 hP (ci := 6) (q0 := 0) rfl rfl, fun U hU hW => ⟨rfl, hU, kM_kept hM hS hAN hU hW⟩⟩ rfl rfl hl.1 rfl (lv_room (Nat.le_of_ble_eq_true rfl)) dX3_leafOfDay_21 ⟨Nat.le_of_ble_eq_true rfl, Nat.le_of_ble_eq_true rfl⟩) hS (fun a _ h => kAy_tr hrA hS.1 a h) (fun a h => kAy_tr hrA hS.1 a h) (fun H locs hP9 hz9 hk9 hS => ?_)
      have hP : va_P (dC, dI) vwCl (kY dA m0 r0 σ (ex2 true false) ++ ([] : va_W)) _ := hP9
      have hD : va_D (kAy m0 r0 s.heap.size) (kY dA m0 r0 σ (ex2 true false) ++ ([] : va_W)) := by rw [← kap]; exact kYD_A hr hrA
      refine kz_ifb_eq (tgt := 31) hx hb  dX3_leafOfDay_24 (by decide) (fun c_6 => absurd (kf_f c_6).1 (by decide)) (fun c_6 => ?_)
      have hX : ex2 (!inb z1 0 3 || !inb z2 0 3) (false) = ex2 true false := by first | rfl | simp only [c_1, c_3, Bool.true_or, Bool.or_true, Bool.false_or, Bool.or_false, Bool.not_true, Bool.not_false]
      have hN : ¬ ex2 (!inb z1 0 3 || !inb z2 0 3) (false) = 0 := kf_ne hX c_6
      refine lv_iconst (v := iZ 0) hx hb dX3_leafOfDay_27 rfl ?_
      refine lv_goto (tgt := 52) hx hb dX3_leafOfDay_28 (by decide) ?_
      refine W.widen (k := 1) (n := 2) (Nat.le_of_ble_eq_true rfl) (Nat.le_of_ble_eq_true rfl) ?_
      exact W.iret (v := iZ 0) hx hb hr9 (fun t ht hW => ⟨⟨congrArg (fun z : Int => Outcome.returned (some (Value.int (iZ z)))) (show 0 = (if ex2 (!inb z1 0 3 || !inb z2 0 3) (false) = 0 then (mlen (leap (σ 5 (z2.toNat))) (σ 6 (z2.toNat))) else 0) from by rw [if_neg hN]), gY_cast ⟨r0, hr, hrA, by rw [ht]; exact va_Pl hP⟩ (show (σ) = (if ex2 (!inb z1 0 3 || !inb z2 0 3) (false) = 0 then (sU (sU σ 0 z1.toNat (σ 5 (z2.toNat))) 1 z1.toNat (σ 6 (z2.toNat))) else σ) from by rw [if_neg hN]) (show (ex2 true false) = ex2 (!inb z1 0 3 || !inb z2 0 3) (false) from hX.symm)⟩, hS.F ht⟩) hS.2.2 dX3_leafOfDay_52

abbrev ww_X3_year : List Cond := .code yX3_year cX3_year 3 (some .int) :: gT
set_option maxHeartbeats 4000000 in
set_option maxRecDepth 100000 in
theorem c_X3_year (l : Launch) (dC : Nat → ClassId) (dI : Nat → Nat → Nat) (dA : Nat → ClassId) (k : Nat → Nat) (m0 : Nat) (r0 : Nat → Nat → Nat) (σ : Nat → Nat → Int) (th : Int) (H0 : Heap) (hP : va_P (dC, dI) vwCl (kY dA m0 r0 σ th) H0) (hr : kRI m0 r0 k) (hOK : kOK σ) (z1 : Int) (yy : Int) (rz1 : -2147483648 ≤ z1 ∧ z1 < 2147483648) (ryy : -2147483648 ≤ yy ∧ yy < 2147483648) : Met l yX3_year ww_X3_year ({ frames := 4, cells := 0, slots := 0, locals := 87 }) (va_Pc [.ref m0, .int (iZ z1), .int (iZ yy)] (fun U => U.heap = H0 ∧ kM dC dI dA k U)) (kQ2 (some (.int (iZ (if ex2 (!inb z1 0 3) (!inb yy (-999999999) 999999999) = 0 then (ylen yy) else 0)))) (gY dC dI dA k m0 r0 H0.size (if ex2 (!inb z1 0 3) (!inb yy (-999999999) 999999999) = 0 then (sU σ 2 z1.toNat yy) else σ) (ex2 (!inb z1 0 3) (!inb yy (-999999999) 999999999))) (kAy m0 r0 H0.size)) 0 0 (kAy m0 r0 H0.size) := by
  refine Met.ofW (cc := cX3_year) (maxL := 3) (ret := (some .int)) (by decide) rfl ?_
  intro p e s m args below meth c s₁ B hml hv
  obtain ⟨rfl, hH, hM⟩ := hv
  subst hH
  have hr0 := hr
  have hAN : ∀ a, kAy m0 r0 s.heap.size a → k 0 ≤ a := fun a h => kAy_N hr0 hM.2.1.1 a h
  have hrA : ∀ i : Nat, i < 17 → kAy m0 r0 s.heap.size (kR m0 r0 i) := fun i hi => Or.inl ⟨i, hi, rfl⟩
  have hD : va_D (kAy m0 r0 s.heap.size) (kY dA m0 r0 σ (th) ++ ([] : va_W)) := by rw [← kap]; exact kYD_A hr hrA
  have hP : va_P (dC, dI) vwCl (kY dA m0 r0 σ (th) ++ ([] : va_W)) s.heap := hP
  have hS : va_S (kAy m0 r0 s.heap.size) s.heap s.heap [] := va_S.rf
  have hx := B.exec
  have hb := B.bytes
  have hr9 := B.returns
  have hts := atoms_spec (ws := ww_X3_year) B.pre
  have hown : s.vm.findClass RX3 = some m.cls := findClass_of_methodNamed B.named
  have hlocks := B.notSynchronized
  have hl := lv_entry ([.ref m0, .int (iZ z1), .int (iZ yy)]) (n := 3) (Nat.le_of_ble_eq_true rfl)
  rw [lg_entry_eq]
  generalize (lg_sl ([.ref m0, .int (iZ z1), .int (iZ yy)]) ++ List.replicate (3 - (lg_sl ([.ref m0, .int (iZ z1), .int (iZ yy)])).length) Slot.unset).toArray = ls at hl ⊢
  have hl : lv_has ls 3 [(0, .ref m0), (1, .int (iZ z1)), (2, .int (iZ yy))] := hl
  refine lv_aload_n hx hb dX3_year_0 rfl (lv_at hl 0 rfl) ?_
  refine lv_iload_n hx hb dX3_year_1 rfl (lv_at hl 1 rfl) ?_
  refine kc0 (fun _ q => q) (va_runS (As := [.int (iZ z1)]) (rest := [.ref m0]) ⟨hx, hb, hml, hown, hts⟩ (c_X3_isNo l _ (z1) (by first | omega | (unfold sgn; (try split) <;> omega))) (va_cwS 1 hts (kg_S mw1021 mw1022 mw47 rfl mw1023) rfl rfl rfl hdS_X3_isNo ⟨Nat.le_of_ble_eq_true rfl, Nat.le_of_ble_eq_true rfl⟩) ⟨fun a U g mk q => q, fun U hU hW => ⟨rfl, hU⟩⟩ rfl rfl hl.1 rfl (lv_room (Nat.le_of_ble_eq_true rfl)) dX3_year_2 ⟨Nat.le_of_ble_eq_true rfl, Nat.le_of_ble_eq_true rfl⟩) ?_
  refine lv_iload_n hx hb dX3_year_5 rfl (lv_at hl 2 rfl) ?_
  refine kz_i2l hx hb (by first | omega | (unfold sgn; (try split) <;> omega)) dX3_year_6 ?_
  refine kc0 (fun _ q => q) (va_runS (As := [.long (lZ (yy))]) (rest := [.int (iZ (bZ (!inb ((z1)) 0 3))), .ref m0]) ⟨hx, hb, hml, hown, hts⟩ (c_X3_isNoYear l _ (yy) (by first | omega | (unfold sgn; (try split) <;> omega))) (va_cwS 1 hts (kg_S mw1028 mw1029 mw47 rfl mw1030) rfl rfl rfl hdS_X3_isNoYear ⟨Nat.le_of_ble_eq_true rfl, Nat.le_of_ble_eq_true rfl⟩) ⟨fun a U g mk q => q, fun U hU hW => ⟨rfl, hU⟩⟩ rfl rfl hl.1 rfl (lv_room (Nat.le_of_ble_eq_true rfl)) dX3_year_7 ⟨Nat.le_of_ble_eq_true rfl, Nat.le_of_ble_eq_true rfl⟩) ?_
  refine kc2 (va_runV (As := [.int (iZ (bZ (!inb ((z1)) 0 3))), .int (iZ (bZ (!inb ((yy)) (-999999999) 999999999)))]) (rest := []) ⟨hx, hb, hml, hown, hts⟩ (c_X3_fails l dC dI dA k m0 (r0) (σ) (th) _ (va_Pl hP) hr hOK (!inb ((z1)) 0 3) (!inb ((yy)) (-999999999) 999999999) ) (cwV 2 hts (kg_V mw1037 mw1038 mw27 mw47 rfl mw1039) rfl rfl rfl hdV_X3_fails ⟨Nat.le_of_ble_eq_true rfl, Nat.le_of_ble_eq_true rfl⟩) ⟨fun a U g mk q => ⟨q.1, q.2.1, kM_call q.2.2⟩, va_recv hM.1 hP (ci := 6) (q0 := 0) rfl rfl, fun U hU hW => ⟨rfl, hU, kM_kept hM hS hAN hU hW⟩⟩ rfl rfl hl.1 rfl (lv_room (Nat.le_of_ble_eq_true rfl)) dX3_year_10 ⟨Nat.le_of_ble_eq_true rfl, Nat.le_of_ble_eq_true rfl⟩) hS (fun a _ h => kAy_tr hrA hS.1 a h) (fun a h => kAy_tr hrA hS.1 a h) (fun H locs hP9 hz9 hk9 hS => ?_)
  have hP : va_P (dC, dI) vwCl (kY dA m0 r0 σ (ex2 ((!inb ((z1)) 0 3)) ((!inb ((yy)) (-999999999) 999999999))) ++ ([] : va_W)) _ := hP9
  have hD : va_D (kAy m0 r0 s.heap.size) (kY dA m0 r0 σ (ex2 ((!inb ((z1)) 0 3)) ((!inb ((yy)) (-999999999) 999999999))) ++ ([] : va_W)) := by rw [← kap]; exact kYD_A hr hrA
  refine kz_ifb_eq (tgt := 20) hx hb  dX3_year_13 (by decide) (fun c_1 => ?_) (fun c_1 => ?_)
  · have hX : ex2 (!inb z1 0 3) (!inb yy (-999999999) 999999999) = ex2 (!inb ((z1)) 0 3) (!inb ((yy)) (-999999999) 999999999) := by first | rfl | simp only [Bool.true_or, Bool.or_true, Bool.false_or, Bool.or_false, Bool.not_true, Bool.not_false]
    have hZ : ex2 (!inb z1 0 3) (!inb yy (-999999999) 999999999) = 0 := kf_eq hX c_1
    obtain ⟨hA9, hB9⟩ := ex2_z hZ
    simp only [Bool.or_eq_false_iff, Bool.not_eq_false', Bool.not_eq_true', inb, decide_eq_true_eq, decide_eq_false_iff_not, noThing_niff] at hA9
    simp only [Bool.or_eq_false_iff, Bool.not_eq_false', Bool.not_eq_true', inb, decide_eq_true_eq, decide_eq_false_iff_not, noThing_niff] at hB9
    obtain ⟨p1, hp1, rfl⟩ : ∃ p1 : Nat, p1 < 4 ∧ z1 = (p1 : Int) := ⟨z1.toNat, by omega, by omega⟩
    have o_p1 := kOKr hOK hp1
    have l_p1 := mlen_rng (leap (σ 0 p1)) (σ 1 p1)
    have n_p1 := dnum_rng (y := σ 5 p1) (m := σ 6 p1) (d := σ 7 p1) (by omega) (by omega) (by omega)
    have hP := kY0 hP (kf_e c_1)
    have hD := kD0 hD (kf_e c_1)
    refine lv_aload_n hx hb dX3_year_20 rfl (lv_at hl 0 rfl) ?_
    refine lv_iload_n hx hb dX3_year_21 rfl (lv_at hl 1 rfl) ?_
    refine lv_iload_n hx hb dX3_year_22 rfl (lv_at hl 2 rfl) ?_
    refine kz_i2l hx hb (by first | omega | (unfold sgn; (try split) <;> omega)) dX3_year_23 ?_
    refine kc2 (va_runV (As := [.int (iZ ((p1 : Nat) : Int)), .long (lZ (yy))]) (rest := []) ⟨hx, hb, hml, hown, hts⟩ (c_X3_putYear l dC dI dA k m0 (r0) (σ) (0) _ (va_Pl hP) hr hOK p1 (yy) hp1 (by first | omega | (unfold sgn; (try split) <;> omega))) (cwV 2 hts (kg_V mw1148 mw1149 mw31 mw47 rfl mw1150) rfl rfl rfl hdV_X3_putYear ⟨Nat.le_of_ble_eq_true rfl, Nat.le_of_ble_eq_true rfl⟩) ⟨fun a U g mk q => ⟨q.1, q.2.1, kM_call q.2.2⟩, va_recv hM.1 hP (ci := 6) (q0 := 0) rfl rfl, fun U hU hW => ⟨rfl, hU, kM_kept hM hS hAN hU hW⟩⟩ rfl rfl hl.1 rfl (lv_room (Nat.le_of_ble_eq_true rfl)) dX3_year_24 ⟨Nat.le_of_ble_eq_true rfl, Nat.le_of_ble_eq_true rfl⟩) hS (fun a _ h => kAy_tr hrA hS.1 a h) (fun a h => kAy_tr hrA hS.1 a h) (fun H locs hP9 hz9 hk9 hS => ?_)
    have hP : va_P (dC, dI) vwCl (kY dA m0 r0 (putYs σ p1 ((yy))) (0) ++ ([] : va_W)) _ := hP9
    have hD : va_D (kAy m0 r0 s.heap.size) (kY dA m0 r0 (putYs σ p1 ((yy))) (0) ++ ([] : va_W)) := by rw [← kap]; exact kYD_A hr hrA
    refine W.widen (k := 0) (n := 0) (Nat.le_of_ble_eq_true rfl) (Nat.le_of_ble_eq_true rfl) ?_
    exact W.iret (v := iZ (putYr ((yy)))) hx hb hr9 (fun t ht hW => ⟨⟨congrArg (fun z : Int => Outcome.returned (some (Value.int (iZ z)))) (show (putYr ((yy))) = (if ex2 (!inb ((p1 : Nat) : Int) 0 3) (!inb yy (-999999999) 999999999) = 0 then (ylen yy) else 0) from by rw [if_pos hZ]; exact putYr_in (by omega)), gY_cast ⟨r0, hr, hrA, by rw [ht]; exact va_Pl hP⟩ (show (putYs σ p1 ((yy))) = (if ex2 (!inb ((p1 : Nat) : Int) 0 3) (!inb yy (-999999999) 999999999) = 0 then (sU σ 2 p1 yy) else σ) from by rw [if_pos hZ]; exact putYs_in (by omega)) (show (0) = ex2 (!inb ((p1 : Nat) : Int) 0 3) (!inb yy (-999999999) 999999999) from hZ.symm)⟩, hS.F ht⟩) hS.2.2 dX3_year_27
  · have hX : ex2 (!inb z1 0 3) (!inb yy (-999999999) 999999999) = ex2 (!inb ((z1)) 0 3) (!inb ((yy)) (-999999999) 999999999) := by first | rfl | simp only [Bool.true_or, Bool.or_true, Bool.false_or, Bool.or_false, Bool.not_true, Bool.not_false]
    have hN : ¬ ex2 (!inb z1 0 3) (!inb yy (-999999999) 999999999) = 0 := kf_ne hX c_1
    refine lv_iconst (v := iZ 0) hx hb dX3_year_16 rfl ?_
    refine lv_goto (tgt := 27) hx hb dX3_year_17 (by decide) ?_
    refine W.widen (k := 0) (n := 0) (Nat.le_of_ble_eq_true rfl) (Nat.le_of_ble_eq_true rfl) ?_
    exact W.iret (v := iZ 0) hx hb hr9 (fun t ht hW => ⟨⟨congrArg (fun z : Int => Outcome.returned (some (Value.int (iZ z)))) (show 0 = (if ex2 (!inb z1 0 3) (!inb yy (-999999999) 999999999) = 0 then (ylen yy) else 0) from by rw [if_neg hN]), gY_cast ⟨r0, hr, hrA, by rw [ht]; exact va_Pl hP⟩ (show (σ) = (if ex2 (!inb z1 0 3) (!inb yy (-999999999) 999999999) = 0 then (sU σ 2 z1.toNat yy) else σ) from by rw [if_neg hN]) (show (ex2 ((!inb ((z1)) 0 3)) ((!inb ((yy)) (-999999999) 999999999))) = ex2 (!inb z1 0 3) (!inb yy (-999999999) 999999999) from hX.symm)⟩, hS.F ht⟩) hS.2.2 dX3_year_27

abbrev ww_X3_later : List Cond := .code yX3_later cX3_later 4 (some .int) :: gT
set_option maxHeartbeats 4000000 in
set_option maxRecDepth 100000 in
theorem c_X3_later (l : Launch) (dC : Nat → ClassId) (dI : Nat → Nat → Nat) (dA : Nat → ClassId) (k : Nat → Nat) (m0 : Nat) (r0 : Nat → Nat → Nat) (σ : Nat → Nat → Int) (th : Int) (H0 : Heap) (hP : va_P (dC, dI) vwCl (kY dA m0 r0 σ th) H0) (hr : kRI m0 r0 k) (hOK : kOK σ) (z1 : Int) (mm : Int) (bb : Bool) (rz1 : -2147483648 ≤ z1 ∧ z1 < 2147483648) (rmm : -2147483648 ≤ mm ∧ mm < 2147483648) : Met l yX3_later ww_X3_later ({ frames := 4, cells := 0, slots := 0, locals := 87 }) (va_Pc [.ref m0, .int (iZ z1), .int (iZ mm), .int (iZ (bZ (bb)))] (fun U => U.heap = H0 ∧ kM dC dI dA k U)) (kQ2 (some (.int (iZ (if ex2 (!inb z1 0 3) (false) = 0 then (putYr (σ 2 (z1.toNat) + sgn mm bb)) else 0)))) (gY dC dI dA k m0 r0 H0.size (if ex2 (!inb z1 0 3) (false) = 0 then (putYs σ (z1.toNat) (σ 2 (z1.toNat) + sgn mm bb)) else σ) (ex2 (!inb z1 0 3) (false))) (kAy m0 r0 H0.size)) 0 0 (kAy m0 r0 H0.size) := by
  refine Met.ofW (cc := cX3_later) (maxL := 4) (ret := (some .int)) (by decide) rfl ?_
  intro p e s m args below meth c s₁ B hml hv
  obtain ⟨rfl, hH, hM⟩ := hv
  subst hH
  have hr0 := hr
  have hAN : ∀ a, kAy m0 r0 s.heap.size a → k 0 ≤ a := fun a h => kAy_N hr0 hM.2.1.1 a h
  have hrA : ∀ i : Nat, i < 17 → kAy m0 r0 s.heap.size (kR m0 r0 i) := fun i hi => Or.inl ⟨i, hi, rfl⟩
  have hD : va_D (kAy m0 r0 s.heap.size) (kY dA m0 r0 σ (th) ++ ([] : va_W)) := by rw [← kap]; exact kYD_A hr hrA
  have hP : va_P (dC, dI) vwCl (kY dA m0 r0 σ (th) ++ ([] : va_W)) s.heap := hP
  have hS : va_S (kAy m0 r0 s.heap.size) s.heap s.heap [] := va_S.rf
  have hx := B.exec
  have hb := B.bytes
  have hr9 := B.returns
  have hts := atoms_spec (ws := ww_X3_later) B.pre
  have hown : s.vm.findClass RX3 = some m.cls := findClass_of_methodNamed B.named
  have hlocks := B.notSynchronized
  have hl := lv_entry ([.ref m0, .int (iZ z1), .int (iZ mm), .int (iZ (bZ (bb)))]) (n := 4) (Nat.le_of_ble_eq_true rfl)
  rw [lg_entry_eq]
  generalize (lg_sl ([.ref m0, .int (iZ z1), .int (iZ mm), .int (iZ (bZ (bb)))]) ++ List.replicate (4 - (lg_sl ([.ref m0, .int (iZ z1), .int (iZ mm), .int (iZ (bZ (bb)))])).length) Slot.unset).toArray = ls at hl ⊢
  have hl : lv_has ls 4 [(0, .ref m0), (1, .int (iZ z1)), (2, .int (iZ mm)), (3, .int (iZ (bZ (bb))))] := hl
  refine lv_aload_n hx hb dX3_later_0 rfl (lv_at hl 0 rfl) ?_
  refine lv_iload_n hx hb dX3_later_1 rfl (lv_at hl 1 rfl) ?_
  refine kc0 (fun _ q => q) (va_runS (As := [.int (iZ z1)]) (rest := [.ref m0]) ⟨hx, hb, hml, hown, hts⟩ (c_X3_isNo l _ (z1) (by first | omega | (unfold sgn; (try split) <;> omega))) (va_cwS 1 hts (kg_S mw1021 mw1022 mw47 rfl mw1023) rfl rfl rfl hdS_X3_isNo ⟨Nat.le_of_ble_eq_true rfl, Nat.le_of_ble_eq_true rfl⟩) ⟨fun a U g mk q => q, fun U hU hW => ⟨rfl, hU⟩⟩ rfl rfl hl.1 rfl (lv_room (Nat.le_of_ble_eq_true rfl)) dX3_later_2 ⟨Nat.le_of_ble_eq_true rfl, Nat.le_of_ble_eq_true rfl⟩) ?_
  refine lv_iconst (v := iZ 0) hx hb dX3_later_5 rfl ?_
  refine kc2 (va_runV (As := [.int (iZ (bZ (!inb ((z1)) 0 3))), .int (iZ (bZ false))]) (rest := []) ⟨hx, hb, hml, hown, hts⟩ (c_X3_fails l dC dI dA k m0 (r0) (σ) (th) _ (va_Pl hP) hr hOK (!inb ((z1)) 0 3) false ) (cwV 2 hts (kg_V mw1037 mw1038 mw27 mw47 rfl mw1039) rfl rfl rfl hdV_X3_fails ⟨Nat.le_of_ble_eq_true rfl, Nat.le_of_ble_eq_true rfl⟩) ⟨fun a U g mk q => ⟨q.1, q.2.1, kM_call q.2.2⟩, va_recv hM.1 hP (ci := 6) (q0 := 0) rfl rfl, fun U hU hW => ⟨rfl, hU, kM_kept hM hS hAN hU hW⟩⟩ rfl rfl hl.1 rfl (lv_room (Nat.le_of_ble_eq_true rfl)) dX3_later_6 ⟨Nat.le_of_ble_eq_true rfl, Nat.le_of_ble_eq_true rfl⟩) hS (fun a _ h => kAy_tr hrA hS.1 a h) (fun a h => kAy_tr hrA hS.1 a h) (fun H locs hP9 hz9 hk9 hS => ?_)
  have hP : va_P (dC, dI) vwCl (kY dA m0 r0 σ (ex2 ((!inb ((z1)) 0 3)) false) ++ ([] : va_W)) _ := hP9
  have hD : va_D (kAy m0 r0 s.heap.size) (kY dA m0 r0 σ (ex2 ((!inb ((z1)) 0 3)) false) ++ ([] : va_W)) := by rw [← kap]; exact kYD_A hr hrA
  refine kz_ifb_eq (tgt := 16) hx hb  dX3_later_9 (by decide) (fun c_1 => ?_) (fun c_1 => ?_)
  · have hX : ex2 (!inb z1 0 3) (false) = ex2 (!inb ((z1)) 0 3) false := by first | rfl | simp only [Bool.true_or, Bool.or_true, Bool.false_or, Bool.or_false, Bool.not_true, Bool.not_false]
    have hZ : ex2 (!inb z1 0 3) (false) = 0 := kf_eq hX c_1
    obtain ⟨hA9, hB9⟩ := ex2_z hZ
    simp only [Bool.or_eq_false_iff, Bool.not_eq_false', Bool.not_eq_true', inb, decide_eq_true_eq, decide_eq_false_iff_not, noThing_niff] at hA9
    obtain ⟨p1, hp1, rfl⟩ : ∃ p1 : Nat, p1 < 4 ∧ z1 = (p1 : Int) := ⟨z1.toNat, by omega, by omega⟩
    have o_p1 := kOKr hOK hp1
    have l_p1 := mlen_rng (leap (σ 0 p1)) (σ 1 p1)
    have n_p1 := dnum_rng (y := σ 5 p1) (m := σ 6 p1) (d := σ 7 p1) (by omega) (by omega) (by omega)
    have hP := kY0 hP (kf_e c_1)
    have hD := kD0 hD (kf_e c_1)
    refine lv_aload_n hx hb dX3_later_16 rfl (lv_at hl 0 rfl) ?_
    refine lv_iload_n hx hb dX3_later_17 rfl (lv_at hl 1 rfl) ?_
    refine lv_aload_n hx hb dX3_later_18 rfl (lv_at hl 0 rfl) ?_
    refine va_get (D := (dC, dI)) (ci := 6) (v := .ref (r0 0 2)) (C := RX3) (T := TX3) (N := 6) hx hb hts (fun w h => List.mem_cons_of_mem _ (gF_2_in h)) hown hM.1 hP 0 rfl rfl 1 (by decide) (hts _ (List.mem_cons_of_mem _ mw1008)) (fun _ h9 => h9) rfl dX3_later_19 ?_
    refine lv_iload_n hx hb dX3_later_22 rfl (lv_at hl 1 rfl) ?_
    refine kz_iald (v := σ 2 p1) hx hb hM.1 hP 2 0 rfl rfl (by omega) (by decide) rfl dX3_later_23 ?_
    refine kz_i2l hx hb (by first | omega | (unfold sgn; (try split) <;> omega)) dX3_later_24 ?_
    refine lv_iload_n hx hb dX3_later_25 rfl (lv_at hl 2 rfl) ?_
    refine kz_i2l hx hb (by first | omega | (unfold sgn; (try split) <;> omega)) dX3_later_26 ?_
    refine lv_iload_n hx hb dX3_later_27 rfl (lv_at hl 3 rfl) ?_
    refine kc0 (fun _ q => q) (va_runS (As := [.long (lZ (mm)), .int (iZ (bZ (bb)))]) (rest := [.long (lZ ((σ 2 p1))), .int (iZ ((p1 : Nat) : Int)), .ref m0]) ⟨hx, hb, hml, hown, hts⟩ (c_X3_signed l _ (mm) (bb)) (va_cwS 2 hts (kg_S mw1073 mw1074 mw47 rfl mw1075) rfl rfl rfl hdS_X3_signed ⟨Nat.le_of_ble_eq_true rfl, Nat.le_of_ble_eq_true rfl⟩) ⟨fun a U g mk q => q, fun U hU hW => ⟨rfl, hU⟩⟩ rfl rfl hl.1 rfl (lv_room (Nat.le_of_ble_eq_true rfl)) dX3_later_28 ⟨Nat.le_of_ble_eq_true rfl, Nat.le_of_ble_eq_true rfl⟩) ?_
    refine kz_ladd hx hb dX3_later_31 ?_
    refine kc2 (va_runV (As := [.int (iZ ((p1 : Nat) : Int)), .long (lZ (((σ 2 p1)) + (sgn ((mm)) ((bb)))))]) (rest := []) ⟨hx, hb, hml, hown, hts⟩ (c_X3_putYear l dC dI dA k m0 (r0) (σ) (0) _ (va_Pl hP) hr hOK p1 ((((σ 2 p1)) + (sgn ((mm)) ((bb))))) hp1 (by first | omega | (unfold sgn; (try split) <;> omega))) (cwV 2 hts (kg_V mw1148 mw1149 mw31 mw47 rfl mw1150) rfl rfl rfl hdV_X3_putYear ⟨Nat.le_of_ble_eq_true rfl, Nat.le_of_ble_eq_true rfl⟩) ⟨fun a U g mk q => ⟨q.1, q.2.1, kM_call q.2.2⟩, va_recv hM.1 hP (ci := 6) (q0 := 0) rfl rfl, fun U hU hW => ⟨rfl, hU, kM_kept hM hS hAN hU hW⟩⟩ rfl rfl hl.1 rfl (lv_room (Nat.le_of_ble_eq_true rfl)) dX3_later_32 ⟨Nat.le_of_ble_eq_true rfl, Nat.le_of_ble_eq_true rfl⟩) hS (fun a _ h => kAy_tr hrA hS.1 a h) (fun a h => kAy_tr hrA hS.1 a h) (fun H locs hP9 hz9 hk9 hS => ?_)
    have hP : va_P (dC, dI) vwCl (kY dA m0 r0 (putYs σ p1 (((((σ 2 p1)) + (sgn ((mm)) ((bb))))))) (0) ++ ([] : va_W)) _ := hP9
    have hD : va_D (kAy m0 r0 s.heap.size) (kY dA m0 r0 (putYs σ p1 (((((σ 2 p1)) + (sgn ((mm)) ((bb))))))) (0) ++ ([] : va_W)) := by rw [← kap]; exact kYD_A hr hrA
    refine W.widen (k := 0) (n := 0) (Nat.le_of_ble_eq_true rfl) (Nat.le_of_ble_eq_true rfl) ?_
    exact W.iret (v := iZ (putYr (((((σ 2 p1)) + (sgn ((mm)) ((bb)))))))) hx hb hr9 (fun t ht hW => ⟨⟨congrArg (fun z : Int => Outcome.returned (some (Value.int (iZ z)))) (show (putYr (((((σ 2 p1)) + (sgn ((mm)) ((bb))))))) = (if ex2 (!inb ((p1 : Nat) : Int) 0 3) (false) = 0 then (putYr (σ 2 p1 + sgn mm bb)) else 0) from by rw [if_pos hZ]; done), gY_cast ⟨r0, hr, hrA, by rw [ht]; exact va_Pl hP⟩ (show (putYs σ p1 (((((σ 2 p1)) + (sgn ((mm)) ((bb))))))) = (if ex2 (!inb ((p1 : Nat) : Int) 0 3) (false) = 0 then (putYs σ p1 (σ 2 p1 + sgn mm bb)) else σ) from by rw [if_pos hZ]; done) (show (0) = ex2 (!inb ((p1 : Nat) : Int) 0 3) (false) from hZ.symm)⟩, hS.F ht⟩) hS.2.2 dX3_later_35
  · have hX : ex2 (!inb z1 0 3) (false) = ex2 (!inb ((z1)) 0 3) false := by first | rfl | simp only [Bool.true_or, Bool.or_true, Bool.false_or, Bool.or_false, Bool.not_true, Bool.not_false]
    have hN : ¬ ex2 (!inb z1 0 3) (false) = 0 := kf_ne hX c_1
    refine lv_iconst (v := iZ 0) hx hb dX3_later_12 rfl ?_
    refine lv_goto (tgt := 35) hx hb dX3_later_13 (by decide) ?_
    refine W.widen (k := 0) (n := 0) (Nat.le_of_ble_eq_true rfl) (Nat.le_of_ble_eq_true rfl) ?_
    exact W.iret (v := iZ 0) hx hb hr9 (fun t ht hW => ⟨⟨congrArg (fun z : Int => Outcome.returned (some (Value.int (iZ z)))) (show 0 = (if ex2 (!inb z1 0 3) (false) = 0 then (putYr (σ 2 (z1.toNat) + sgn mm bb)) else 0) from by rw [if_neg hN]), gY_cast ⟨r0, hr, hrA, by rw [ht]; exact va_Pl hP⟩ (show (σ) = (if ex2 (!inb z1 0 3) (false) = 0 then (putYs σ (z1.toNat) (σ 2 (z1.toNat) + sgn mm bb)) else σ) from by rw [if_neg hN]) (show (ex2 ((!inb ((z1)) 0 3)) false) = ex2 (!inb z1 0 3) (false) from hX.symm)⟩, hS.F ht⟩) hS.2.2 dX3_later_35

