theorem yus_e {u : Int} (h : 1 ≤ u ∧ u ≤ 4) : tq (usize u) 12 = yus u := by
  have h2 := yus_usize h 1
  rw [Int.one_mul, Int.one_mul] at h2
  exact h2
theorem yus_rng (u : Int) : 1 ≤ yus u ∧ yus u ≤ 1000 := by unfold yus; (repeat' split) <;> omega
theorem kyu_e {u : Int} (h : 1 ≤ u ∧ u ≤ 4) (a : Int) (b : Bool) : tq (usize u) 12 * sgn a b = sgn (a * yus u) b := by
  rw [yus_e h]; unfold sgn; split
  · rw [Int.mul_comm, Int.neg_mul]
  · rw [Int.mul_comm]
theorem kyu_rng {u a : Int} {b : Bool} (h : 1 ≤ u ∧ u ≤ 4) (ha : -2147483648 ≤ a ∧ a < 2147483648) : -100000000000000 ≤ tq (usize u) 12 * sgn a b ∧ tq (usize u) 12 * sgn a b ≤ 100000000000000 := by
  rw [kyu_e h]
  have h0 := yus_rng u
  have h1 : a.natAbs * (yus u).natAbs ≤ 2147483648 * 1000 := Nat.mul_le_mul (by omega) (by omega)
  have h2 : (a * yus u).natAbs = a.natAbs * (yus u).natAbs := Int.natAbs_mul a (yus u)
  unfold sgn; split <;> omega
theorem putFs_t {σ : Nat → Nat → Int} {j : Nat} {m d : Int} (h : putFr m d = true) : putFs σ j m d = sU (sU σ 3 j m) 4 j d := if_pos h
theorem putFs_f {σ : Nat → Nat → Int} {j : Nat} {m d : Int} (h : putFr m d = false) : putFs σ j m d = σ := if_neg (by rw [h]; decide)
theorem putFs_3 {σ : Nat → Nat → Int} {j : Nat} {m d : Int} (h : putFr m d = true) : putFs σ j m d 3 j = m := by rw [putFs_t h]; simp [sU]
theorem putFs_4 {σ : Nat → Nat → Int} {j : Nat} {m d : Int} (h : putFr m d = true) : putFs σ j m d 4 j = d := by rw [putFs_t h]; simp [sU]
theorem each_in {m d : Int} (h : putFr m d = true) : decide (m ≠ 2 ∨ d ≠ 29) = decide (m ≠ 2 ∨ d ≤ 28) := by
  have h1 : d ≤ mlen true m := of_decide_eq_true h
  have h5 : m = 2 → d ≤ 29 := fun e => by rw [e] at h1; exact h1
  rw [decide_eq_decide]; omega
theorem mlen_le (b : Bool) (m : Int) : mlen b m ≤ mlen true m := by
  unfold mlen; (repeat' split) <;> simp_all
theorem putFr_f {σ : Nat → Nat → Int} (h : kOK σ) {i : Nat} (hi : i < 4) : putFr (σ 3 i) (σ 4 i) = true := decide_eq_true (h i hi).2.2.1.2.2.2
theorem putFr_d {σ : Nat → Nat → Int} (h : kOK σ) {i : Nat} (hi : i < 4) : putFr (σ 6 i) (σ 7 i) = true := decide_eq_true (by
  have h4 := (h i hi).2.2.2
  have h5 := mlen_le (leap (σ 5 i)) (σ 6 i)
  omega)
theorem setD_5 {σ : Nat → Nat → Int} {j : Nat} {y m d : Int} : setD σ j y m d 5 j = y := by simp [setD, sU]
theorem setD_6 {σ : Nat → Nat → Int} {j : Nat} {y m d : Int} : setD σ j y m d 6 j = m := by simp [setD, sU]
theorem setD_7 {σ : Nat → Nat → Int} {j : Nat} {y m d : Int} : setD σ j y m d 7 j = d := by simp [setD, sU]
theorem setD_k {σ : Nat → Nat → Int} {j : Nat} {y m d : Int} {k i : Nat} (h : k < 5) : setD σ j y m d k i = σ k i := by
  simp only [setD, sU]; rw [if_neg (by omega), if_neg (by omega), if_neg (by omega)]
abbrev ww_X3_feast : List Cond := .code yX3_feast cX3_feast 4 (some .int) :: gT
set_option maxHeartbeats 4000000 in
set_option maxRecDepth 100000 in
theorem c_X3_feast (l : Launch) (dC : Nat → ClassId) (dI : Nat → Nat → Nat) (dA : Nat → ClassId) (k : Nat → Nat) (m0 : Nat) (r0 : Nat → Nat → Nat) (σ : Nat → Nat → Int) (th : Int) (H0 : Heap) (hP : va_P (dC, dI) vwCl (kY dA m0 r0 σ th) H0) (hr : kRI m0 r0 k) (hOK : kOK σ) (z1 : Int) (mo : Int) (dd : Int) (rz1 : -2147483648 ≤ z1 ∧ z1 < 2147483648) (rmo : -2147483648 ≤ mo ∧ mo < 2147483648) (rdd : -2147483648 ≤ dd ∧ dd < 2147483648) : Met l yX3_feast ww_X3_feast ({ frames := 4, cells := 1, slots := 2, locals := 88 }) (va_Pc [.ref m0, .int (iZ z1), .int (iZ mo), .int (iZ dd)] (fun U => U.heap = H0 ∧ kM dC dI dA k U)) (kQ2 (some (.int (iZ (if ex2 (!inb z1 0 3) (!inb mo 1 12 || !inb dd 1 31) = 0 then (if putFr mo dd = true then bZ (decide (mo ≠ 2 ∨ dd ≤ 28)) else -9) else 0)))) (gY dC dI dA k m0 r0 H0.size (if ex2 (!inb z1 0 3) (!inb mo 1 12 || !inb dd 1 31) = 0 then (putFs σ (z1.toNat) mo dd) else σ) (ex2 (!inb z1 0 3) (!inb mo 1 12 || !inb dd 1 31))) (kAy m0 r0 H0.size)) 1 2 (kAy m0 r0 H0.size) := by
  refine Met.ofW (cc := cX3_feast) (maxL := 4) (ret := (some .int)) (by decide) rfl ?_
  intro p e s m args below meth c s₁ B hml hv
  obtain ⟨rfl, hH, hM⟩ := hv
  subst hH
  have hr0 := hr
  have hAN : ∀ a, kAy m0 r0 s.heap.size a → k 0 ≤ a := fun a h => kAy_N hr0 hM.2.1.1 a h
  have hrA : ∀ i : Nat, i < 17 → kAy m0 r0 s.heap.size (kR m0 r0 i) := fun i hi => Or.inl ⟨i, hi, rfl⟩
  have hD : va_D (kAy m0 r0 s.heap.size) (kY dA m0 r0 σ (th) ++ ([] : va_W)) := by rw [← kap]; exact kYD_A hr hrA
  have hP : va_P (dC, dI) vwCl (kY dA m0 r0 σ (th) ++ ([] : va_W)) s.heap := hP
  have hS : va_S (kAy m0 r0 s.heap.size) s.heap s.heap [] := va_S.rf
  have hx := B.exec
  have hb := B.bytes
  have hr9 := B.returns
  have hts := atoms_spec (ws := ww_X3_feast) B.pre
  have hown : s.vm.findClass RX3 = some m.cls := findClass_of_methodNamed B.named
  have hlocks := B.notSynchronized
  have hl := lv_entry ([.ref m0, .int (iZ z1), .int (iZ mo), .int (iZ dd)]) (n := 4) (Nat.le_of_ble_eq_true rfl)
  rw [lg_entry_eq]
  generalize (lg_sl ([.ref m0, .int (iZ z1), .int (iZ mo), .int (iZ dd)]) ++ List.replicate (4 - (lg_sl ([.ref m0, .int (iZ z1), .int (iZ mo), .int (iZ dd)])).length) Slot.unset).toArray = ls at hl ⊢
  have hl : lv_has ls 4 [(0, .ref m0), (1, .int (iZ z1)), (2, .int (iZ mo)), (3, .int (iZ dd))] := hl
  refine lv_aload_n hx hb dX3_feast_0 rfl (lv_at hl 0 rfl) ?_
  refine lv_iload_n hx hb dX3_feast_1 rfl (lv_at hl 1 rfl) ?_
  refine kc0 (fun _ q => q) (va_runS (As := [.int (iZ z1)]) (rest := [.ref m0]) ⟨hx, hb, hml, hown, hts⟩ (c_X3_isNo l _ (z1) (by first | omega | (rw [putFs_3 (by assumption)]; omega) | (rw [putFs_4 (by assumption)]; omega) | (rw [putFs_k (by decide) (by decide)]; omega))) (va_cwS 1 hts (kg_S mw1021 mw1022 mw47 rfl mw1023) rfl rfl rfl hdS_X3_isNo ⟨Nat.le_of_ble_eq_true rfl, Nat.le_of_ble_eq_true rfl⟩) ⟨fun a U g mk q => q, fun U hU hW => ⟨rfl, hU⟩⟩ rfl rfl hl.1 rfl (lv_room (Nat.le_of_ble_eq_true rfl)) dX3_feast_2 ⟨Nat.le_of_ble_eq_true rfl, Nat.le_of_ble_eq_true rfl⟩) ?_
  refine lv_iload_n hx hb dX3_feast_5 rfl (lv_at hl 2 rfl) ?_
  refine kc0 (fun _ q => q) (va_runS (As := [.int (iZ mo)]) (rest := [.int (iZ (bZ (!inb ((z1)) 0 3))), .ref m0]) ⟨hx, hb, hml, hown, hts⟩ (c_X3_isNoMonth l _ (mo) (by first | omega | (rw [putFs_3 (by assumption)]; omega) | (rw [putFs_4 (by assumption)]; omega) | (rw [putFs_k (by decide) (by decide)]; omega))) (va_cwS 1 hts (kg_S mw1033 mw1034 mw47 rfl mw1035) rfl rfl rfl hdS_X3_isNoMonth ⟨Nat.le_of_ble_eq_true rfl, Nat.le_of_ble_eq_true rfl⟩) ⟨fun a U g mk q => q, fun U hU hW => ⟨rfl, hU⟩⟩ rfl rfl hl.1 rfl (lv_room (Nat.le_of_ble_eq_true rfl)) dX3_feast_6 ⟨Nat.le_of_ble_eq_true rfl, Nat.le_of_ble_eq_true rfl⟩) ?_
  refine kz_ifb_ne (tgt := 24) hx hb  dX3_feast_9 (by decide) (fun c_1 => ?_) (fun c_1 => ?_)
  · refine lv_iconst (v := iZ 1) hx hb dX3_feast_24 rfl ?_
    refine lv_goto (tgt := 29) hx hb dX3_feast_25 (by decide) ?_
    refine kc2 (va_runV (As := [.int (iZ (bZ (!inb ((z1)) 0 3))), .int (iZ (bZ true))]) (rest := []) ⟨hx, hb, hml, hown, hts⟩ (c_X3_fails l dC dI dA k m0 (r0) (σ) (th) _ (va_Pl hP) hr hOK (!inb ((z1)) 0 3) true ) (cwV 2 hts (kg_V mw1037 mw1038 mw27 mw47 rfl mw1039) rfl rfl rfl hdV_X3_fails ⟨Nat.le_of_ble_eq_true rfl, Nat.le_of_ble_eq_true rfl⟩) ⟨fun a U g mk q => ⟨q.1, q.2.1, kM_call q.2.2⟩, va_recv hM.1 hP (ci := 6) (q0 := 0) rfl rfl, fun U hU hW => ⟨rfl, hU, kM_kept hM hS hAN hU hW⟩⟩ rfl rfl hl.1 rfl (lv_room (Nat.le_of_ble_eq_true rfl)) dX3_feast_29 ⟨Nat.le_of_ble_eq_true rfl, Nat.le_of_ble_eq_true rfl⟩) hS (fun a _ h => kAy_tr hrA hS.1 a h) (fun a h => kAy_tr hrA hS.1 a h) (fun H locs hP9 hz9 hk9 hS => ?_)
    have hP : va_P (dC, dI) vwCl (kY dA m0 r0 σ (ex2 ((!inb ((z1)) 0 3)) true) ++ ([] : va_W)) _ := hP9
    have hD : va_D (kAy m0 r0 s.heap.size) (kY dA m0 r0 σ (ex2 ((!inb ((z1)) 0 3)) true) ++ ([] : va_W)) := by rw [← kap]; exact kYD_A hr hrA
    refine kz_ifb_eq (tgt := 37) hx hb  dX3_feast_32 (by decide) (fun c_2 => absurd (kf_f c_2).2 (by decide)) (fun c_2 => ?_)
    have hX : ex2 (!inb z1 0 3) (!inb mo 1 12 || !inb dd 1 31) = ex2 (!inb ((z1)) 0 3) true := by first | rfl | simp only [c_1, Bool.true_or, Bool.or_true, Bool.false_or, Bool.or_false, Bool.not_true, Bool.not_false]
    have hN : ¬ ex2 (!inb z1 0 3) (!inb mo 1 12 || !inb dd 1 31) = 0 := kf_ne hX c_2
    refine lv_iconst (v := iZ 0) hx hb dX3_feast_35 rfl ?_
    refine W.widen (k := 1) (n := 2) (Nat.le_of_ble_eq_true rfl) (Nat.le_of_ble_eq_true rfl) ?_
    exact W.iret (v := iZ 0) hx hb hr9 (fun t ht hW => ⟨⟨congrArg (fun z : Int => Outcome.returned (some (Value.int (iZ z)))) (show 0 = (if ex2 (!inb z1 0 3) (!inb mo 1 12 || !inb dd 1 31) = 0 then (if putFr mo dd = true then bZ (decide (mo ≠ 2 ∨ dd ≤ 28)) else -9) else 0) from by rw [if_neg hN]), gY_cast ⟨r0, hr, hrA, by rw [ht]; exact va_Pl hP⟩ (show (σ) = (if ex2 (!inb z1 0 3) (!inb mo 1 12 || !inb dd 1 31) = 0 then (putFs σ (z1.toNat) mo dd) else σ) from by rw [if_neg hN]) (show (ex2 ((!inb ((z1)) 0 3)) true) = ex2 (!inb z1 0 3) (!inb mo 1 12 || !inb dd 1 31) from hX.symm)⟩, hS.F ht⟩) hS.2.2 dX3_feast_36
  · refine lv_iload_n hx hb dX3_feast_12 rfl (lv_at hl 3 rfl) ?_
    refine kz_i2l hx hb (by first | omega | (rw [putFs_3 (by assumption)]; omega) | (rw [putFs_4 (by assumption)]; omega) | (rw [putFs_k (by decide) (by decide)]; omega)) dX3_feast_13 ?_
    refine lv_lconst (v := lZ 1) hx hb dX3_feast_14 rfl ?_
    refine lv_ldc2 (v := lZ 31) hx hb hown (hts _ (List.mem_cons_of_mem _ mw1179)) dX3_feast_15 ?_
    refine kc0 (fun _ q => q) (va_runS (As := [.long (lZ (dd)), .long (lZ (1)), .long (lZ (31))]) (rest := [.int (iZ (bZ (!inb ((z1)) 0 3))), .ref m0]) ⟨hx, hb, hml, hown, hts⟩ (c_X3_isIn l _ (dd) (1) (31) (by first | omega | (rw [putFs_3 (by assumption)]; omega) | (rw [putFs_4 (by assumption)]; omega) | (rw [putFs_k (by decide) (by decide)]; omega)) (by first | omega | (rw [putFs_3 (by assumption)]; omega) | (rw [putFs_4 (by assumption)]; omega) | (rw [putFs_k (by decide) (by decide)]; omega)) (by first | omega | (rw [putFs_3 (by assumption)]; omega) | (rw [putFs_4 (by assumption)]; omega) | (rw [putFs_k (by decide) (by decide)]; omega))) (va_cwS 3 hts (kg_S mw1025 mw1026 mw47 rfl mw1027) rfl rfl rfl hdS_X3_isIn ⟨Nat.le_of_ble_eq_true rfl, Nat.le_of_ble_eq_true rfl⟩) ⟨fun a U g mk q => q, fun U hU hW => ⟨rfl, hU⟩⟩ rfl rfl hl.1 rfl (lv_room (Nat.le_of_ble_eq_true rfl)) dX3_feast_18 ⟨Nat.le_of_ble_eq_true rfl, Nat.le_of_ble_eq_true rfl⟩) ?_
    refine kz_ifb_ne (tgt := 28) hx hb  dX3_feast_21 (by decide) (fun c_3 => ?_) (fun c_3 => ?_)
    · refine lv_iconst (v := iZ 0) hx hb dX3_feast_28 rfl ?_
      refine kc2 (va_runV (As := [.int (iZ (bZ (!inb ((z1)) 0 3))), .int (iZ (bZ false))]) (rest := []) ⟨hx, hb, hml, hown, hts⟩ (c_X3_fails l dC dI dA k m0 (r0) (σ) (th) _ (va_Pl hP) hr hOK (!inb ((z1)) 0 3) false ) (cwV 2 hts (kg_V mw1037 mw1038 mw27 mw47 rfl mw1039) rfl rfl rfl hdV_X3_fails ⟨Nat.le_of_ble_eq_true rfl, Nat.le_of_ble_eq_true rfl⟩) ⟨fun a U g mk q => ⟨q.1, q.2.1, kM_call q.2.2⟩, va_recv hM.1 hP (ci := 6) (q0 := 0) rfl rfl, fun U hU hW => ⟨rfl, hU, kM_kept hM hS hAN hU hW⟩⟩ rfl rfl hl.1 rfl (lv_room (Nat.le_of_ble_eq_true rfl)) dX3_feast_29 ⟨Nat.le_of_ble_eq_true rfl, Nat.le_of_ble_eq_true rfl⟩) hS (fun a _ h => kAy_tr hrA hS.1 a h) (fun a h => kAy_tr hrA hS.1 a h) (fun H locs hP9 hz9 hk9 hS => ?_)
      have hP : va_P (dC, dI) vwCl (kY dA m0 r0 σ (ex2 ((!inb ((z1)) 0 3)) false) ++ ([] : va_W)) _ := hP9
      have hD : va_D (kAy m0 r0 s.heap.size) (kY dA m0 r0 σ (ex2 ((!inb ((z1)) 0 3)) false) ++ ([] : va_W)) := by rw [← kap]; exact kYD_A hr hrA
      refine kz_ifb_eq (tgt := 37) hx hb  dX3_feast_32 (by decide) (fun c_4 => ?_) (fun c_4 => ?_)
      · have hX : ex2 (!inb z1 0 3) (!inb mo 1 12 || !inb dd 1 31) = ex2 (!inb ((z1)) 0 3) false := by first | rfl | simp only [c_1, c_3, Bool.true_or, Bool.or_true, Bool.false_or, Bool.or_false, Bool.not_true, Bool.not_false]
        have hZ : ex2 (!inb z1 0 3) (!inb mo 1 12 || !inb dd 1 31) = 0 := kf_eq hX c_4
        obtain ⟨hA9, hB9⟩ := ex2_z hZ
        simp only [Bool.or_eq_false_iff, Bool.not_eq_false', Bool.not_eq_true', inb, decide_eq_true_eq, decide_eq_false_iff_not, noThing_niff] at hA9
        simp only [Bool.or_eq_false_iff, Bool.not_eq_false', Bool.not_eq_true', inb, decide_eq_true_eq, decide_eq_false_iff_not, noThing_niff] at hB9
        obtain ⟨p1, hp1, rfl⟩ : ∃ p1 : Nat, p1 < 4 ∧ z1 = (p1 : Int) := ⟨z1.toNat, by omega, by omega⟩
        have o_p1 := kOKr hOK hp1
        have l_p1 := mlen_rng (leap (σ 0 p1)) (σ 1 p1)
        have n_p1 := dnum_rng (y := σ 5 p1) (m := σ 6 p1) (d := σ 7 p1) (by omega) (by omega) (by omega)
        have hP := kY0 hP (kf_e c_4)
        have hD := kD0 hD (kf_e c_4)
        refine lv_aload_n hx hb dX3_feast_37 rfl (lv_at hl 0 rfl) ?_
        refine lv_iload_n hx hb dX3_feast_38 rfl (lv_at hl 1 rfl) ?_
        refine lv_iload_n hx hb dX3_feast_39 rfl (lv_at hl 2 rfl) ?_
        refine lv_iload_n hx hb dX3_feast_40 rfl (lv_at hl 3 rfl) ?_
        refine kc2 (va_runV (As := [.int (iZ ((p1 : Nat) : Int)), .int (iZ mo), .int (iZ dd)]) (rest := []) ⟨hx, hb, hml, hown, hts⟩ (c_X3_isPutFeast l dC dI dA k m0 (r0) (σ) (0) _ (va_Pl hP) hr hOK p1 (mo) (dd) hp1 (by first | omega | (rw [putFs_3 (by assumption)]; omega) | (rw [putFs_4 (by assumption)]; omega) | (rw [putFs_k (by decide) (by decide)]; omega)) (by first | omega | (rw [putFs_3 (by assumption)]; omega) | (rw [putFs_4 (by assumption)]; omega) | (rw [putFs_k (by decide) (by decide)]; omega))) (cwV 3 hts (kg_V mw1180 mw1181 mw32 mw47 rfl mw1182) rfl rfl rfl hdV_X3_isPutFeast ⟨Nat.le_of_ble_eq_true rfl, Nat.le_of_ble_eq_true rfl⟩) ⟨fun a U g mk q => ⟨q.1, q.2.1, kM_call q.2.2⟩, va_recv hM.1 hP (ci := 6) (q0 := 0) rfl rfl, fun U hU hW => ⟨rfl, hU, kM_kept hM hS hAN hU hW⟩⟩ rfl rfl hl.1 rfl (lv_room (Nat.le_of_ble_eq_true rfl)) dX3_feast_41 ⟨Nat.le_of_ble_eq_true rfl, Nat.le_of_ble_eq_true rfl⟩) hS (fun a _ h => kAy_tr hrA hS.1 a h) (fun a h => kAy_tr hrA hS.1 a h) (fun H locs hG hz9 hk9 hS9 => ?_)
        obtain ⟨r_5, hr, hrA9, hP⟩ := hG
        have hrA := kAy_tr2 hrA hS.1 hrA9
        have hS := hS9
        have hP : va_P (dC, dI) vwCl (kY dA m0 r_5 (putFs σ p1 ((mo)) ((dd))) (0) ++ ([] : va_W)) _ := hP
        have hD : va_D (kAy m0 r0 s.heap.size) (kY dA m0 r_5 (putFs σ p1 ((mo)) ((dd))) (0) ++ ([] : va_W)) := by rw [← kap]; exact kYD_A hr hrA
        refine kz_ifb_eq (tgt := 62) hx hb  dX3_feast_44 (by decide) (fun c_6 => ?_) (fun c_6 => ?_)
        · refine lv_bipush (v := iZ (-9)) hx hb dX3_feast_62 rfl ?_
          refine W.widen (k := 1) (n := 2) (Nat.le_of_ble_eq_true rfl) (Nat.le_of_ble_eq_true rfl) ?_
          exact W.iret (v := iZ ((-9))) hx hb hr9 (fun t ht hW => ⟨⟨congrArg (fun z : Int => Outcome.returned (some (Value.int (iZ z)))) (show ((-9)) = (if ex2 (!inb ((p1 : Nat) : Int) 0 3) (!inb mo 1 12 || !inb dd 1 31) = 0 then (if putFr mo dd = true then bZ (decide (mo ≠ 2 ∨ dd ≤ 28)) else -9) else 0) from by rw [if_pos hZ]; rw [if_neg (by simp [*])]), gY_cast ⟨r_5, hr, hrA, by rw [ht]; exact va_Pl hP⟩ (show (putFs σ p1 ((mo)) ((dd))) = (if ex2 (!inb ((p1 : Nat) : Int) 0 3) (!inb mo 1 12 || !inb dd 1 31) = 0 then (putFs σ p1 mo dd) else σ) from by rw [if_pos hZ]; done) (show (0) = ex2 (!inb ((p1 : Nat) : Int) 0 3) (!inb mo 1 12 || !inb dd 1 31) from hZ.symm)⟩, hS.F ht⟩) hS.2.2 dX3_feast_64
        · refine lv_aload_n hx hb dX3_feast_47 rfl (lv_at hl 0 rfl) ?_
          refine va_get (D := (dC, dI)) (ci := 6) (v := .ref (r_5 0 3)) (C := RX3) (T := TX3) (N := 6) hx hb hts (fun w h => List.mem_cons_of_mem _ (gF_2_in h)) hown hM.1 hP 0 rfl rfl 2 (by decide) (hts _ (List.mem_cons_of_mem _ mw1009)) (fun _ h9 => h9) rfl dX3_feast_48 ?_
          refine lv_iload_n hx hb dX3_feast_51 rfl (lv_at hl 1 rfl) ?_
          refine kz_aald (v := r_5 2 p1) hx hb hM.1 hP 3 rfl (by omega) (by decide) rfl dX3_feast_52 ?_
          refine kc0 (fun _ q => q) (va_runS (As := [.ref (r_5 2 p1)]) (rest := []) ⟨hx, hb, hml, hown, hts⟩ (c_X3_isEach l dC dI dA k _ _ hP (9 + p1) (r_5 2 p1) _ ((putFs σ p1 ((mo)) ((dd))) 3 p1) ((putFs σ p1 ((mo)) ((dd))) 4 p1) (kY_F _ hp1) rfl rfl (by first | omega | (rw [putFs_3 (by assumption)]; omega) | (rw [putFs_4 (by assumption)]; omega) | (rw [putFs_k (by decide) (by decide)]; omega)) (by first | omega | (rw [putFs_3 (by assumption)]; omega) | (rw [putFs_4 (by assumption)]; omega) | (rw [putFs_k (by decide) (by decide)]; omega))) (va_cwS 1 hts (kg_S mw1183 mw1184 mw47 rfl mw1185) rfl rfl rfl hdS_X3_isEach ⟨Nat.le_of_ble_eq_true rfl, Nat.le_of_ble_eq_true rfl⟩) ⟨fun a U g mk q => ⟨q.1, q.2.1, kM_call q.2.2⟩, fun U hU hW => ⟨rfl, hU, kM_kept hM hS hAN hU hW⟩⟩ rfl rfl hl.1 rfl (lv_room (Nat.le_of_ble_eq_true rfl)) dX3_feast_53 ⟨Nat.le_of_ble_eq_true rfl, Nat.le_of_ble_eq_true rfl⟩) ?_
          refine kc0 (fun _ q => q) (va_runS (As := [.int (iZ (bZ (decide ((((putFs σ p1 ((mo)) ((dd))) 3 p1)) ≠ 2 ∨ (((putFs σ p1 ((mo)) ((dd))) 4 p1)) ≠ 29))))]) (rest := []) ⟨hx, hb, hml, hown, hts⟩ (c_X3_bit l _ (decide ((((putFs σ p1 ((mo)) ((dd))) 3 p1)) ≠ 2 ∨ (((putFs σ p1 ((mo)) ((dd))) 4 p1)) ≠ 29))) (va_cwS 1 hts (kg_S mw1116 mw1117 mw47 rfl mw1118) rfl rfl rfl hdS_X3_bit ⟨Nat.le_of_ble_eq_true rfl, Nat.le_of_ble_eq_true rfl⟩) ⟨fun a U g mk q => q, fun U hU hW => ⟨rfl, hU⟩⟩ rfl rfl hl.1 rfl (lv_room (Nat.le_of_ble_eq_true rfl)) dX3_feast_56 ⟨Nat.le_of_ble_eq_true rfl, Nat.le_of_ble_eq_true rfl⟩) ?_
          refine lv_goto (tgt := 64) hx hb dX3_feast_59 (by decide) ?_
          refine W.widen (k := 1) (n := 2) (Nat.le_of_ble_eq_true rfl) (Nat.le_of_ble_eq_true rfl) ?_
          exact W.iret (v := iZ (bZ ((decide ((((putFs σ p1 ((mo)) ((dd))) 3 p1)) ≠ 2 ∨ (((putFs σ p1 ((mo)) ((dd))) 4 p1)) ≠ 29))))) hx hb hr9 (fun t ht hW => ⟨⟨congrArg (fun z : Int => Outcome.returned (some (Value.int (iZ z)))) (show (bZ ((decide ((((putFs σ p1 ((mo)) ((dd))) 3 p1)) ≠ 2 ∨ (((putFs σ p1 ((mo)) ((dd))) 4 p1)) ≠ 29)))) = (if ex2 (!inb ((p1 : Nat) : Int) 0 3) (!inb mo 1 12 || !inb dd 1 31) = 0 then (if putFr mo dd = true then bZ (decide (mo ≠ 2 ∨ dd ≤ 28)) else -9) else 0) from by rw [if_pos hZ]; rw [if_pos (by assumption), putFs_3 (by assumption), putFs_4 (by assumption), each_in (by assumption)]), gY_cast ⟨r_5, hr, hrA, by rw [ht]; exact va_Pl hP⟩ (show (putFs σ p1 ((mo)) ((dd))) = (if ex2 (!inb ((p1 : Nat) : Int) 0 3) (!inb mo 1 12 || !inb dd 1 31) = 0 then (putFs σ p1 mo dd) else σ) from by rw [if_pos hZ]; done) (show (0) = ex2 (!inb ((p1 : Nat) : Int) 0 3) (!inb mo 1 12 || !inb dd 1 31) from hZ.symm)⟩, hS.F ht⟩) hS.2.2 dX3_feast_64
      · have hX : ex2 (!inb z1 0 3) (!inb mo 1 12 || !inb dd 1 31) = ex2 (!inb ((z1)) 0 3) false := by first | rfl | simp only [c_1, c_3, Bool.true_or, Bool.or_true, Bool.false_or, Bool.or_false, Bool.not_true, Bool.not_false]
        have hN : ¬ ex2 (!inb z1 0 3) (!inb mo 1 12 || !inb dd 1 31) = 0 := kf_ne hX c_4
        refine lv_iconst (v := iZ 0) hx hb dX3_feast_35 rfl ?_
        refine W.widen (k := 1) (n := 2) (Nat.le_of_ble_eq_true rfl) (Nat.le_of_ble_eq_true rfl) ?_
        exact W.iret (v := iZ 0) hx hb hr9 (fun t ht hW => ⟨⟨congrArg (fun z : Int => Outcome.returned (some (Value.int (iZ z)))) (show 0 = (if ex2 (!inb z1 0 3) (!inb mo 1 12 || !inb dd 1 31) = 0 then (if putFr mo dd = true then bZ (decide (mo ≠ 2 ∨ dd ≤ 28)) else -9) else 0) from by rw [if_neg hN]), gY_cast ⟨r0, hr, hrA, by rw [ht]; exact va_Pl hP⟩ (show (σ) = (if ex2 (!inb z1 0 3) (!inb mo 1 12 || !inb dd 1 31) = 0 then (putFs σ (z1.toNat) mo dd) else σ) from by rw [if_neg hN]) (show (ex2 ((!inb ((z1)) 0 3)) false) = ex2 (!inb z1 0 3) (!inb mo 1 12 || !inb dd 1 31) from hX.symm)⟩, hS.F ht⟩) hS.2.2 dX3_feast_36
    · refine lv_iconst (v := iZ 1) hx hb dX3_feast_24 rfl ?_
      refine lv_goto (tgt := 29) hx hb dX3_feast_25 (by decide) ?_
      refine kc2 (va_runV (As := [.int (iZ (bZ (!inb ((z1)) 0 3))), .int (iZ (bZ true))]) (rest := []) ⟨hx, hb, hml, hown, hts⟩ (c_X3_fails l dC dI dA k m0 (r0) (σ) (th) _ (va_Pl hP) hr hOK (!inb ((z1)) 0 3) true ) (cwV 2 hts (kg_V mw1037 mw1038 mw27 mw47 rfl mw1039) rfl rfl rfl hdV_X3_fails ⟨Nat.le_of_ble_eq_true rfl, Nat.le_of_ble_eq_true rfl⟩) ⟨fun a U g mk q => ⟨q.1, q.2.1, kM_call q.2.2⟩, va_recv hM.1 hP (ci := 6) (q0 := 0) rfl rfl, fun U hU hW => ⟨rfl, hU, kM_kept hM hS hAN hU hW⟩⟩ rfl rfl hl.1 rfl (lv_room (Nat.le_of_ble_eq_true rfl)) dX3_feast_29 ⟨Nat.le_of_ble_eq_true rfl, Nat.le_of_ble_eq_true rfl⟩) hS (fun a _ h => kAy_tr hrA hS.1 a h) (fun a h => kAy_tr hrA hS.1 a h) (fun H locs hP9 hz9 hk9 hS => ?_)
      have hP : va_P (dC, dI) vwCl (kY dA m0 r0 σ (ex2 ((!inb ((z1)) 0 3)) true) ++ ([] : va_W)) _ := hP9
      have hD : va_D (kAy m0 r0 s.heap.size) (kY dA m0 r0 σ (ex2 ((!inb ((z1)) 0 3)) true) ++ ([] : va_W)) := by rw [← kap]; exact kYD_A hr hrA
      refine kz_ifb_eq (tgt := 37) hx hb  dX3_feast_32 (by decide) (fun c_7 => absurd (kf_f c_7).2 (by decide)) (fun c_7 => ?_)
      have hX : ex2 (!inb z1 0 3) (!inb mo 1 12 || !inb dd 1 31) = ex2 (!inb ((z1)) 0 3) true := by first | rfl | simp only [c_1, c_3, Bool.true_or, Bool.or_true, Bool.false_or, Bool.or_false, Bool.not_true, Bool.not_false]
      have hN : ¬ ex2 (!inb z1 0 3) (!inb mo 1 12 || !inb dd 1 31) = 0 := kf_ne hX c_7
      refine lv_iconst (v := iZ 0) hx hb dX3_feast_35 rfl ?_
      refine W.widen (k := 1) (n := 2) (Nat.le_of_ble_eq_true rfl) (Nat.le_of_ble_eq_true rfl) ?_
      exact W.iret (v := iZ 0) hx hb hr9 (fun t ht hW => ⟨⟨congrArg (fun z : Int => Outcome.returned (some (Value.int (iZ z)))) (show 0 = (if ex2 (!inb z1 0 3) (!inb mo 1 12 || !inb dd 1 31) = 0 then (if putFr mo dd = true then bZ (decide (mo ≠ 2 ∨ dd ≤ 28)) else -9) else 0) from by rw [if_neg hN]), gY_cast ⟨r0, hr, hrA, by rw [ht]; exact va_Pl hP⟩ (show (σ) = (if ex2 (!inb z1 0 3) (!inb mo 1 12 || !inb dd 1 31) = 0 then (putFs σ (z1.toNat) mo dd) else σ) from by rw [if_neg hN]) (show (ex2 ((!inb ((z1)) 0 3)) true) = ex2 (!inb z1 0 3) (!inb mo 1 12 || !inb dd 1 31) from hX.symm)⟩, hS.F ht⟩) hS.2.2 dX3_feast_36

abbrev ww_X3_feastRound : List Cond := .code yX3_feastRound cX3_feastRound 4 (some .int) :: gT
set_option maxHeartbeats 4000000 in
set_option maxRecDepth 100000 in
theorem c_X3_feastRound (l : Launch) (dC : Nat → ClassId) (dI : Nat → Nat → Nat) (dA : Nat → ClassId) (k : Nat → Nat) (m0 : Nat) (r0 : Nat → Nat → Nat) (σ : Nat → Nat → Int) (th : Int) (H0 : Heap) (hP : va_P (dC, dI) vwCl (kY dA m0 r0 σ th) H0) (hr : kRI m0 r0 k) (hOK : kOK σ) (z1 : Int) (mm : Int) (dd : Int) (rz1 : -2147483648 ≤ z1 ∧ z1 < 2147483648) (rmm : -2147483648 ≤ mm ∧ mm < 2147483648) (rdd : -2147483648 ≤ dd ∧ dd < 2147483648) : Met l yX3_feastRound ww_X3_feastRound ({ frames := 4, cells := 1, slots := 2, locals := 88 }) (va_Pc [.ref m0, .int (iZ z1), .int (iZ mm), .int (iZ dd)] (fun U => U.heap = H0 ∧ kM dC dI dA k U)) (kQ2 (some (.int (iZ (if ex2 (!inb z1 0 3) (!inb dd 1 31) = 0 then (if putFr (1 + mm % 12) dd = true then 1 + mm % 12 else -9) else 0)))) (gY dC dI dA k m0 r0 H0.size (if ex2 (!inb z1 0 3) (!inb dd 1 31) = 0 then (putFs σ (z1.toNat) (1 + mm % 12) dd) else σ) (ex2 (!inb z1 0 3) (!inb dd 1 31))) (kAy m0 r0 H0.size)) 1 2 (kAy m0 r0 H0.size) := by
  refine Met.ofW (cc := cX3_feastRound) (maxL := 4) (ret := (some .int)) (by decide) rfl ?_
  intro p e s m args below meth c s₁ B hml hv
  obtain ⟨rfl, hH, hM⟩ := hv
  subst hH
  have hr0 := hr
  have hAN : ∀ a, kAy m0 r0 s.heap.size a → k 0 ≤ a := fun a h => kAy_N hr0 hM.2.1.1 a h
  have hrA : ∀ i : Nat, i < 17 → kAy m0 r0 s.heap.size (kR m0 r0 i) := fun i hi => Or.inl ⟨i, hi, rfl⟩
  have hD : va_D (kAy m0 r0 s.heap.size) (kY dA m0 r0 σ (th) ++ ([] : va_W)) := by rw [← kap]; exact kYD_A hr hrA
  have hP : va_P (dC, dI) vwCl (kY dA m0 r0 σ (th) ++ ([] : va_W)) s.heap := hP
  have hS : va_S (kAy m0 r0 s.heap.size) s.heap s.heap [] := va_S.rf
  have hx := B.exec
  have hb := B.bytes
  have hr9 := B.returns
  have hts := atoms_spec (ws := ww_X3_feastRound) B.pre
  have hown : s.vm.findClass RX3 = some m.cls := findClass_of_methodNamed B.named
  have hlocks := B.notSynchronized
  have hl := lv_entry ([.ref m0, .int (iZ z1), .int (iZ mm), .int (iZ dd)]) (n := 4) (Nat.le_of_ble_eq_true rfl)
  rw [lg_entry_eq]
  generalize (lg_sl ([.ref m0, .int (iZ z1), .int (iZ mm), .int (iZ dd)]) ++ List.replicate (4 - (lg_sl ([.ref m0, .int (iZ z1), .int (iZ mm), .int (iZ dd)])).length) Slot.unset).toArray = ls at hl ⊢
  have hl : lv_has ls 4 [(0, .ref m0), (1, .int (iZ z1)), (2, .int (iZ mm)), (3, .int (iZ dd))] := hl
  refine lv_aload_n hx hb dX3_feastRound_0 rfl (lv_at hl 0 rfl) ?_
  refine lv_iload_n hx hb dX3_feastRound_1 rfl (lv_at hl 1 rfl) ?_
  refine kc0 (fun _ q => q) (va_runS (As := [.int (iZ z1)]) (rest := [.ref m0]) ⟨hx, hb, hml, hown, hts⟩ (c_X3_isNo l _ (z1) (by first | omega | (unfold sgn; (try split) <;> omega))) (va_cwS 1 hts (kg_S mw1021 mw1022 mw47 rfl mw1023) rfl rfl rfl hdS_X3_isNo ⟨Nat.le_of_ble_eq_true rfl, Nat.le_of_ble_eq_true rfl⟩) ⟨fun a U g mk q => q, fun U hU hW => ⟨rfl, hU⟩⟩ rfl rfl hl.1 rfl (lv_room (Nat.le_of_ble_eq_true rfl)) dX3_feastRound_2 ⟨Nat.le_of_ble_eq_true rfl, Nat.le_of_ble_eq_true rfl⟩) ?_
  refine lv_iload_n hx hb dX3_feastRound_5 rfl (lv_at hl 3 rfl) ?_
  refine kz_i2l hx hb (by first | omega | (unfold sgn; (try split) <;> omega)) dX3_feastRound_6 ?_
  refine lv_lconst (v := lZ 1) hx hb dX3_feastRound_7 rfl ?_
  refine lv_ldc2 (v := lZ 31) hx hb hown (hts _ (List.mem_cons_of_mem _ mw1179)) dX3_feastRound_8 ?_
  refine kc0 (fun _ q => q) (va_runS (As := [.long (lZ (dd)), .long (lZ (1)), .long (lZ (31))]) (rest := [.int (iZ (bZ (!inb ((z1)) 0 3))), .ref m0]) ⟨hx, hb, hml, hown, hts⟩ (c_X3_isIn l _ (dd) (1) (31) (by first | omega | (unfold sgn; (try split) <;> omega)) (by first | omega | (unfold sgn; (try split) <;> omega)) (by first | omega | (unfold sgn; (try split) <;> omega))) (va_cwS 3 hts (kg_S mw1025 mw1026 mw47 rfl mw1027) rfl rfl rfl hdS_X3_isIn ⟨Nat.le_of_ble_eq_true rfl, Nat.le_of_ble_eq_true rfl⟩) ⟨fun a U g mk q => q, fun U hU hW => ⟨rfl, hU⟩⟩ rfl rfl hl.1 rfl (lv_room (Nat.le_of_ble_eq_true rfl)) dX3_feastRound_11 ⟨Nat.le_of_ble_eq_true rfl, Nat.le_of_ble_eq_true rfl⟩) ?_
  refine kz_ifb_ne (tgt := 21) hx hb  dX3_feastRound_14 (by decide) (fun c_1 => ?_) (fun c_1 => ?_)
  · refine lv_iconst (v := iZ 0) hx hb dX3_feastRound_21 rfl ?_
    refine kc2 (va_runV (As := [.int (iZ (bZ (!inb ((z1)) 0 3))), .int (iZ (bZ false))]) (rest := []) ⟨hx, hb, hml, hown, hts⟩ (c_X3_fails l dC dI dA k m0 (r0) (σ) (th) _ (va_Pl hP) hr hOK (!inb ((z1)) 0 3) false ) (cwV 2 hts (kg_V mw1037 mw1038 mw27 mw47 rfl mw1039) rfl rfl rfl hdV_X3_fails ⟨Nat.le_of_ble_eq_true rfl, Nat.le_of_ble_eq_true rfl⟩) ⟨fun a U g mk q => ⟨q.1, q.2.1, kM_call q.2.2⟩, va_recv hM.1 hP (ci := 6) (q0 := 0) rfl rfl, fun U hU hW => ⟨rfl, hU, kM_kept hM hS hAN hU hW⟩⟩ rfl rfl hl.1 rfl (lv_room (Nat.le_of_ble_eq_true rfl)) dX3_feastRound_22 ⟨Nat.le_of_ble_eq_true rfl, Nat.le_of_ble_eq_true rfl⟩) hS (fun a _ h => kAy_tr hrA hS.1 a h) (fun a h => kAy_tr hrA hS.1 a h) (fun H locs hP9 hz9 hk9 hS => ?_)
    have hP : va_P (dC, dI) vwCl (kY dA m0 r0 σ (ex2 ((!inb ((z1)) 0 3)) false) ++ ([] : va_W)) _ := hP9
    have hD : va_D (kAy m0 r0 s.heap.size) (kY dA m0 r0 σ (ex2 ((!inb ((z1)) 0 3)) false) ++ ([] : va_W)) := by rw [← kap]; exact kYD_A hr hrA
    refine kz_ifb_eq (tgt := 30) hx hb  dX3_feastRound_25 (by decide) (fun c_2 => ?_) (fun c_2 => ?_)
    · have hX : ex2 (!inb z1 0 3) (!inb dd 1 31) = ex2 (!inb ((z1)) 0 3) false := by first | rfl | simp only [c_1, Bool.true_or, Bool.or_true, Bool.false_or, Bool.or_false, Bool.not_true, Bool.not_false]
      have hZ : ex2 (!inb z1 0 3) (!inb dd 1 31) = 0 := kf_eq hX c_2
      obtain ⟨hA9, hB9⟩ := ex2_z hZ
      simp only [Bool.or_eq_false_iff, Bool.not_eq_false', Bool.not_eq_true', inb, decide_eq_true_eq, decide_eq_false_iff_not, noThing_niff] at hA9
      simp only [Bool.or_eq_false_iff, Bool.not_eq_false', Bool.not_eq_true', inb, decide_eq_true_eq, decide_eq_false_iff_not, noThing_niff] at hB9
      obtain ⟨p1, hp1, rfl⟩ : ∃ p1 : Nat, p1 < 4 ∧ z1 = (p1 : Int) := ⟨z1.toNat, by omega, by omega⟩
      have o_p1 := kOKr hOK hp1
      have l_p1 := mlen_rng (leap (σ 0 p1)) (σ 1 p1)
      have n_p1 := dnum_rng (y := σ 5 p1) (m := σ 6 p1) (d := σ 7 p1) (by omega) (by omega) (by omega)
      have hP := kY0 hP (kf_e c_2)
      have hD := kD0 hD (kf_e c_2)
      refine lv_aload_n hx hb dX3_feastRound_30 rfl (lv_at hl 0 rfl) ?_
      refine lv_iload_n hx hb dX3_feastRound_31 rfl (lv_at hl 1 rfl) ?_
      refine lv_iload_n hx hb dX3_feastRound_32 rfl (lv_at hl 2 rfl) ?_
      refine kc0 (fun _ q => q) (va_runS (As := [.int (iZ mm)]) (rest := [.int (iZ ((p1 : Nat) : Int)), .ref m0]) ⟨hx, hb, hml, hown, hts⟩ (c_X3_round l _ (mm) (by first | omega | (unfold sgn; (try split) <;> omega))) (va_cwS 1 hts (kg_S mw1060 mw1061 mw47 rfl mw1062) rfl rfl rfl hdS_X3_round ⟨Nat.le_of_ble_eq_true rfl, Nat.le_of_ble_eq_true rfl⟩) ⟨fun a U g mk q => q, fun U hU hW => ⟨rfl, hU⟩⟩ rfl rfl hl.1 rfl (lv_room (Nat.le_of_ble_eq_true rfl)) dX3_feastRound_33 ⟨Nat.le_of_ble_eq_true rfl, Nat.le_of_ble_eq_true rfl⟩) ?_
      refine lv_iload_n hx hb dX3_feastRound_36 rfl (lv_at hl 3 rfl) ?_
      refine kc2 (va_runV (As := [.int (iZ ((p1 : Nat) : Int)), .int (iZ (1 + ((mm)) % 12)), .int (iZ dd)]) (rest := []) ⟨hx, hb, hml, hown, hts⟩ (c_X3_isPutFeast l dC dI dA k m0 (r0) (σ) (0) _ (va_Pl hP) hr hOK p1 ((1 + ((mm)) % 12)) (dd) hp1 (by first | omega | (unfold sgn; (try split) <;> omega)) (by first | omega | (unfold sgn; (try split) <;> omega))) (cwV 3 hts (kg_V mw1180 mw1181 mw32 mw47 rfl mw1182) rfl rfl rfl hdV_X3_isPutFeast ⟨Nat.le_of_ble_eq_true rfl, Nat.le_of_ble_eq_true rfl⟩) ⟨fun a U g mk q => ⟨q.1, q.2.1, kM_call q.2.2⟩, va_recv hM.1 hP (ci := 6) (q0 := 0) rfl rfl, fun U hU hW => ⟨rfl, hU, kM_kept hM hS hAN hU hW⟩⟩ rfl rfl hl.1 rfl (lv_room (Nat.le_of_ble_eq_true rfl)) dX3_feastRound_37 ⟨Nat.le_of_ble_eq_true rfl, Nat.le_of_ble_eq_true rfl⟩) hS (fun a _ h => kAy_tr hrA hS.1 a h) (fun a h => kAy_tr hrA hS.1 a h) (fun H locs hG hz9 hk9 hS9 => ?_)
      obtain ⟨r_3, hr, hrA9, hP⟩ := hG
      have hrA := kAy_tr2 hrA hS.1 hrA9
      have hS := hS9
      have hP : va_P (dC, dI) vwCl (kY dA m0 r_3 (putFs σ p1 (((1 + ((mm)) % 12))) ((dd))) (0) ++ ([] : va_W)) _ := hP
      have hD : va_D (kAy m0 r0 s.heap.size) (kY dA m0 r_3 (putFs σ p1 (((1 + ((mm)) % 12))) ((dd))) (0) ++ ([] : va_W)) := by rw [← kap]; exact kYD_A hr hrA
      refine kz_ifb_eq (tgt := 50) hx hb  dX3_feastRound_40 (by decide) (fun c_4 => ?_) (fun c_4 => ?_)
      · refine lv_bipush (v := iZ (-9)) hx hb dX3_feastRound_50 rfl ?_
        refine W.widen (k := 1) (n := 2) (Nat.le_of_ble_eq_true rfl) (Nat.le_of_ble_eq_true rfl) ?_
        exact W.iret (v := iZ ((-9))) hx hb hr9 (fun t ht hW => ⟨⟨congrArg (fun z : Int => Outcome.returned (some (Value.int (iZ z)))) (show ((-9)) = (if ex2 (!inb ((p1 : Nat) : Int) 0 3) (!inb dd 1 31) = 0 then (if putFr (1 + mm % 12) dd = true then 1 + mm % 12 else -9) else 0) from by rw [if_pos hZ]; rw [if_neg (by simp [*])]), gY_cast ⟨r_3, hr, hrA, by rw [ht]; exact va_Pl hP⟩ (show (putFs σ p1 (((1 + ((mm)) % 12))) ((dd))) = (if ex2 (!inb ((p1 : Nat) : Int) 0 3) (!inb dd 1 31) = 0 then (putFs σ p1 (1 + mm % 12) dd) else σ) from by rw [if_pos hZ]; done) (show (0) = ex2 (!inb ((p1 : Nat) : Int) 0 3) (!inb dd 1 31) from hZ.symm)⟩, hS.F ht⟩) hS.2.2 dX3_feastRound_52
      · refine lv_iload_n hx hb dX3_feastRound_43 rfl (lv_at hl 2 rfl) ?_
        refine kc0 (fun _ q => q) (va_runS (As := [.int (iZ mm)]) (rest := []) ⟨hx, hb, hml, hown, hts⟩ (c_X3_round l _ (mm) (by first | omega | (unfold sgn; (try split) <;> omega))) (va_cwS 1 hts (kg_S mw1060 mw1061 mw47 rfl mw1062) rfl rfl rfl hdS_X3_round ⟨Nat.le_of_ble_eq_true rfl, Nat.le_of_ble_eq_true rfl⟩) ⟨fun a U g mk q => q, fun U hU hW => ⟨rfl, hU⟩⟩ rfl rfl hl.1 rfl (lv_room (Nat.le_of_ble_eq_true rfl)) dX3_feastRound_44 ⟨Nat.le_of_ble_eq_true rfl, Nat.le_of_ble_eq_true rfl⟩) ?_
        refine lv_goto (tgt := 52) hx hb dX3_feastRound_47 (by decide) ?_
        refine W.widen (k := 1) (n := 2) (Nat.le_of_ble_eq_true rfl) (Nat.le_of_ble_eq_true rfl) ?_
        exact W.iret (v := iZ (1 + ((mm)) % 12)) hx hb hr9 (fun t ht hW => ⟨⟨congrArg (fun z : Int => Outcome.returned (some (Value.int (iZ z)))) (show (1 + ((mm)) % 12) = (if ex2 (!inb ((p1 : Nat) : Int) 0 3) (!inb dd 1 31) = 0 then (if putFr (1 + mm % 12) dd = true then 1 + mm % 12 else -9) else 0) from by rw [if_pos hZ]; rw [if_pos (by assumption)]), gY_cast ⟨r_3, hr, hrA, by rw [ht]; exact va_Pl hP⟩ (show (putFs σ p1 (((1 + ((mm)) % 12))) ((dd))) = (if ex2 (!inb ((p1 : Nat) : Int) 0 3) (!inb dd 1 31) = 0 then (putFs σ p1 (1 + mm % 12) dd) else σ) from by rw [if_pos hZ]; done) (show (0) = ex2 (!inb ((p1 : Nat) : Int) 0 3) (!inb dd 1 31) from hZ.symm)⟩, hS.F ht⟩) hS.2.2 dX3_feastRound_52
    · have hX : ex2 (!inb z1 0 3) (!inb dd 1 31) = ex2 (!inb ((z1)) 0 3) false := by first | rfl | simp only [c_1, Bool.true_or, Bool.or_true, Bool.false_or, Bool.or_false, Bool.not_true, Bool.not_false]
      have hN : ¬ ex2 (!inb z1 0 3) (!inb dd 1 31) = 0 := kf_ne hX c_2
      refine lv_iconst (v := iZ 0) hx hb dX3_feastRound_28 rfl ?_
      refine W.widen (k := 1) (n := 2) (Nat.le_of_ble_eq_true rfl) (Nat.le_of_ble_eq_true rfl) ?_
      exact W.iret (v := iZ 0) hx hb hr9 (fun t ht hW => ⟨⟨congrArg (fun z : Int => Outcome.returned (some (Value.int (iZ z)))) (show 0 = (if ex2 (!inb z1 0 3) (!inb dd 1 31) = 0 then (if putFr (1 + mm % 12) dd = true then 1 + mm % 12 else -9) else 0) from by rw [if_neg hN]), gY_cast ⟨r0, hr, hrA, by rw [ht]; exact va_Pl hP⟩ (show (σ) = (if ex2 (!inb z1 0 3) (!inb dd 1 31) = 0 then (putFs σ (z1.toNat) (1 + mm % 12) dd) else σ) from by rw [if_neg hN]) (show (ex2 ((!inb ((z1)) 0 3)) false) = ex2 (!inb z1 0 3) (!inb dd 1 31) from hX.symm)⟩, hS.F ht⟩) hS.2.2 dX3_feastRound_29
  · refine lv_iconst (v := iZ 1) hx hb dX3_feastRound_17 rfl ?_
    refine lv_goto (tgt := 22) hx hb dX3_feastRound_18 (by decide) ?_
    refine kc2 (va_runV (As := [.int (iZ (bZ (!inb ((z1)) 0 3))), .int (iZ (bZ true))]) (rest := []) ⟨hx, hb, hml, hown, hts⟩ (c_X3_fails l dC dI dA k m0 (r0) (σ) (th) _ (va_Pl hP) hr hOK (!inb ((z1)) 0 3) true ) (cwV 2 hts (kg_V mw1037 mw1038 mw27 mw47 rfl mw1039) rfl rfl rfl hdV_X3_fails ⟨Nat.le_of_ble_eq_true rfl, Nat.le_of_ble_eq_true rfl⟩) ⟨fun a U g mk q => ⟨q.1, q.2.1, kM_call q.2.2⟩, va_recv hM.1 hP (ci := 6) (q0 := 0) rfl rfl, fun U hU hW => ⟨rfl, hU, kM_kept hM hS hAN hU hW⟩⟩ rfl rfl hl.1 rfl (lv_room (Nat.le_of_ble_eq_true rfl)) dX3_feastRound_22 ⟨Nat.le_of_ble_eq_true rfl, Nat.le_of_ble_eq_true rfl⟩) hS (fun a _ h => kAy_tr hrA hS.1 a h) (fun a h => kAy_tr hrA hS.1 a h) (fun H locs hP9 hz9 hk9 hS => ?_)
    have hP : va_P (dC, dI) vwCl (kY dA m0 r0 σ (ex2 ((!inb ((z1)) 0 3)) true) ++ ([] : va_W)) _ := hP9
    have hD : va_D (kAy m0 r0 s.heap.size) (kY dA m0 r0 σ (ex2 ((!inb ((z1)) 0 3)) true) ++ ([] : va_W)) := by rw [← kap]; exact kYD_A hr hrA
    refine kz_ifb_eq (tgt := 30) hx hb  dX3_feastRound_25 (by decide) (fun c_5 => absurd (kf_f c_5).2 (by decide)) (fun c_5 => ?_)
    have hX : ex2 (!inb z1 0 3) (!inb dd 1 31) = ex2 (!inb ((z1)) 0 3) true := by first | rfl | simp only [c_1, Bool.true_or, Bool.or_true, Bool.false_or, Bool.or_false, Bool.not_true, Bool.not_false]
    have hN : ¬ ex2 (!inb z1 0 3) (!inb dd 1 31) = 0 := kf_ne hX c_5
    refine lv_iconst (v := iZ 0) hx hb dX3_feastRound_28 rfl ?_
    refine W.widen (k := 1) (n := 2) (Nat.le_of_ble_eq_true rfl) (Nat.le_of_ble_eq_true rfl) ?_
    exact W.iret (v := iZ 0) hx hb hr9 (fun t ht hW => ⟨⟨congrArg (fun z : Int => Outcome.returned (some (Value.int (iZ z)))) (show 0 = (if ex2 (!inb z1 0 3) (!inb dd 1 31) = 0 then (if putFr (1 + mm % 12) dd = true then 1 + mm % 12 else -9) else 0) from by rw [if_neg hN]), gY_cast ⟨r0, hr, hrA, by rw [ht]; exact va_Pl hP⟩ (show (σ) = (if ex2 (!inb z1 0 3) (!inb dd 1 31) = 0 then (putFs σ (z1.toNat) (1 + mm % 12) dd) else σ) from by rw [if_neg hN]) (show (ex2 ((!inb ((z1)) 0 3)) true) = ex2 (!inb z1 0 3) (!inb dd 1 31) from hX.symm)⟩, hS.F ht⟩) hS.2.2 dX3_feastRound_29

abbrev ww_X3_feastDay : List Cond := .code yX3_feastDay cX3_feastDay 5 (some .int) :: gT
set_option maxHeartbeats 4000000 in
set_option maxRecDepth 100000 in
theorem c_X3_feastDay (l : Launch) (dC : Nat → ClassId) (dI : Nat → Nat → Nat) (dA : Nat → ClassId) (k : Nat → Nat) (m0 : Nat) (r0 : Nat → Nat → Nat) (σ : Nat → Nat → Int) (th : Int) (H0 : Heap) (hP : va_P (dC, dI) vwCl (kY dA m0 r0 σ th) H0) (hr : kRI m0 r0 k) (hOK : kOK σ) (z1 : Int) (dd : Int) (bb : Bool) (rz1 : -2147483648 ≤ z1 ∧ z1 < 2147483648) (rdd : -2147483648 ≤ dd ∧ dd < 2147483648) : Met l yX3_feastDay ww_X3_feastDay ({ frames := 4, cells := 1, slots := 2, locals := 88 }) (va_Pc [.ref m0, .int (iZ z1), .int (iZ dd), .int (iZ (bZ (bb)))] (fun U => U.heap = H0 ∧ kM dC dI dA k U)) (kQ2 (some (.int (iZ (if ex2 (!inb z1 0 3) (!inb dd 1 31) = 0 then (if putFr (σ 3 (z1.toNat)) dd = true then σ 4 (z1.toNat) else -9) else 0)))) (gY dC dI dA k m0 r0 H0.size (if ex2 (!inb z1 0 3) (!inb dd 1 31) = 0 then (putFs σ (z1.toNat) (σ 3 (z1.toNat)) dd) else σ) (ex2 (!inb z1 0 3) (!inb dd 1 31))) (kAy m0 r0 H0.size)) 1 2 (kAy m0 r0 H0.size) := by
  refine Met.ofW (cc := cX3_feastDay) (maxL := 5) (ret := (some .int)) (by decide) rfl ?_
  intro p e s m args below meth c s₁ B hml hv
  obtain ⟨rfl, hH, hM⟩ := hv
  subst hH
  have hr0 := hr
  have hAN : ∀ a, kAy m0 r0 s.heap.size a → k 0 ≤ a := fun a h => kAy_N hr0 hM.2.1.1 a h
  have hrA : ∀ i : Nat, i < 17 → kAy m0 r0 s.heap.size (kR m0 r0 i) := fun i hi => Or.inl ⟨i, hi, rfl⟩
  have hD : va_D (kAy m0 r0 s.heap.size) (kY dA m0 r0 σ (th) ++ ([] : va_W)) := by rw [← kap]; exact kYD_A hr hrA
  have hP : va_P (dC, dI) vwCl (kY dA m0 r0 σ (th) ++ ([] : va_W)) s.heap := hP
  have hS : va_S (kAy m0 r0 s.heap.size) s.heap s.heap [] := va_S.rf
  have hx := B.exec
  have hb := B.bytes
  have hr9 := B.returns
  have hts := atoms_spec (ws := ww_X3_feastDay) B.pre
  have hown : s.vm.findClass RX3 = some m.cls := findClass_of_methodNamed B.named
  have hlocks := B.notSynchronized
  have hl := lv_entry ([.ref m0, .int (iZ z1), .int (iZ dd), .int (iZ (bZ (bb)))]) (n := 5) (Nat.le_of_ble_eq_true rfl)
  rw [lg_entry_eq]
  generalize (lg_sl ([.ref m0, .int (iZ z1), .int (iZ dd), .int (iZ (bZ (bb)))]) ++ List.replicate (5 - (lg_sl ([.ref m0, .int (iZ z1), .int (iZ dd), .int (iZ (bZ (bb)))])).length) Slot.unset).toArray = ls at hl ⊢
  have hl : lv_has ls 5 [(0, .ref m0), (1, .int (iZ z1)), (2, .int (iZ dd)), (3, .int (iZ (bZ (bb))))] := hl
  refine lv_aload_n hx hb dX3_feastDay_0 rfl (lv_at hl 0 rfl) ?_
  refine lv_iload_n hx hb dX3_feastDay_1 rfl (lv_at hl 1 rfl) ?_
  refine kc0 (fun _ q => q) (va_runS (As := [.int (iZ z1)]) (rest := [.ref m0]) ⟨hx, hb, hml, hown, hts⟩ (c_X3_isNo l _ (z1) (by first | omega | (unfold sgn; (try split) <;> omega))) (va_cwS 1 hts (kg_S mw1021 mw1022 mw47 rfl mw1023) rfl rfl rfl hdS_X3_isNo ⟨Nat.le_of_ble_eq_true rfl, Nat.le_of_ble_eq_true rfl⟩) ⟨fun a U g mk q => q, fun U hU hW => ⟨rfl, hU⟩⟩ rfl rfl hl.1 rfl (lv_room (Nat.le_of_ble_eq_true rfl)) dX3_feastDay_2 ⟨Nat.le_of_ble_eq_true rfl, Nat.le_of_ble_eq_true rfl⟩) ?_
  refine lv_iload_n hx hb dX3_feastDay_5 rfl (lv_at hl 2 rfl) ?_
  refine kz_i2l hx hb (by first | omega | (unfold sgn; (try split) <;> omega)) dX3_feastDay_6 ?_
  refine lv_lconst (v := lZ 1) hx hb dX3_feastDay_7 rfl ?_
  refine lv_ldc2 (v := lZ 31) hx hb hown (hts _ (List.mem_cons_of_mem _ mw1179)) dX3_feastDay_8 ?_
  refine kc0 (fun _ q => q) (va_runS (As := [.long (lZ (dd)), .long (lZ (1)), .long (lZ (31))]) (rest := [.int (iZ (bZ (!inb ((z1)) 0 3))), .ref m0]) ⟨hx, hb, hml, hown, hts⟩ (c_X3_isIn l _ (dd) (1) (31) (by first | omega | (unfold sgn; (try split) <;> omega)) (by first | omega | (unfold sgn; (try split) <;> omega)) (by first | omega | (unfold sgn; (try split) <;> omega))) (va_cwS 3 hts (kg_S mw1025 mw1026 mw47 rfl mw1027) rfl rfl rfl hdS_X3_isIn ⟨Nat.le_of_ble_eq_true rfl, Nat.le_of_ble_eq_true rfl⟩) ⟨fun a U g mk q => q, fun U hU hW => ⟨rfl, hU⟩⟩ rfl rfl hl.1 rfl (lv_room (Nat.le_of_ble_eq_true rfl)) dX3_feastDay_11 ⟨Nat.le_of_ble_eq_true rfl, Nat.le_of_ble_eq_true rfl⟩) ?_
  refine kz_ifb_ne (tgt := 21) hx hb  dX3_feastDay_14 (by decide) (fun c_1 => ?_) (fun c_1 => ?_)
  · refine lv_iconst (v := iZ 0) hx hb dX3_feastDay_21 rfl ?_
    refine kc2 (va_runV (As := [.int (iZ (bZ (!inb ((z1)) 0 3))), .int (iZ (bZ false))]) (rest := []) ⟨hx, hb, hml, hown, hts⟩ (c_X3_fails l dC dI dA k m0 (r0) (σ) (th) _ (va_Pl hP) hr hOK (!inb ((z1)) 0 3) false ) (cwV 2 hts (kg_V mw1037 mw1038 mw27 mw47 rfl mw1039) rfl rfl rfl hdV_X3_fails ⟨Nat.le_of_ble_eq_true rfl, Nat.le_of_ble_eq_true rfl⟩) ⟨fun a U g mk q => ⟨q.1, q.2.1, kM_call q.2.2⟩, va_recv hM.1 hP (ci := 6) (q0 := 0) rfl rfl, fun U hU hW => ⟨rfl, hU, kM_kept hM hS hAN hU hW⟩⟩ rfl rfl hl.1 rfl (lv_room (Nat.le_of_ble_eq_true rfl)) dX3_feastDay_22 ⟨Nat.le_of_ble_eq_true rfl, Nat.le_of_ble_eq_true rfl⟩) hS (fun a _ h => kAy_tr hrA hS.1 a h) (fun a h => kAy_tr hrA hS.1 a h) (fun H locs hP9 hz9 hk9 hS => ?_)
    have hP : va_P (dC, dI) vwCl (kY dA m0 r0 σ (ex2 ((!inb ((z1)) 0 3)) false) ++ ([] : va_W)) _ := hP9
    have hD : va_D (kAy m0 r0 s.heap.size) (kY dA m0 r0 σ (ex2 ((!inb ((z1)) 0 3)) false) ++ ([] : va_W)) := by rw [← kap]; exact kYD_A hr hrA
    refine kz_ifb_eq (tgt := 30) hx hb  dX3_feastDay_25 (by decide) (fun c_2 => ?_) (fun c_2 => ?_)
    · have hX : ex2 (!inb z1 0 3) (!inb dd 1 31) = ex2 (!inb ((z1)) 0 3) false := by first | rfl | simp only [c_1, Bool.true_or, Bool.or_true, Bool.false_or, Bool.or_false, Bool.not_true, Bool.not_false]
      have hZ : ex2 (!inb z1 0 3) (!inb dd 1 31) = 0 := kf_eq hX c_2
      obtain ⟨hA9, hB9⟩ := ex2_z hZ
      simp only [Bool.or_eq_false_iff, Bool.not_eq_false', Bool.not_eq_true', inb, decide_eq_true_eq, decide_eq_false_iff_not, noThing_niff] at hA9
      simp only [Bool.or_eq_false_iff, Bool.not_eq_false', Bool.not_eq_true', inb, decide_eq_true_eq, decide_eq_false_iff_not, noThing_niff] at hB9
      obtain ⟨p1, hp1, rfl⟩ : ∃ p1 : Nat, p1 < 4 ∧ z1 = (p1 : Int) := ⟨z1.toNat, by omega, by omega⟩
      have o_p1 := kOKr hOK hp1
      have l_p1 := mlen_rng (leap (σ 0 p1)) (σ 1 p1)
      have n_p1 := dnum_rng (y := σ 5 p1) (m := σ 6 p1) (d := σ 7 p1) (by omega) (by omega) (by omega)
      have hP := kY0 hP (kf_e c_2)
      have hD := kD0 hD (kf_e c_2)
      refine lv_aload_n hx hb dX3_feastDay_30 rfl (lv_at hl 0 rfl) ?_
      refine va_get (D := (dC, dI)) (ci := 6) (v := .ref (r0 0 3)) (C := RX3) (T := TX3) (N := 6) hx hb hts (fun w h => List.mem_cons_of_mem _ (gF_2_in h)) hown hM.1 hP 0 rfl rfl 2 (by decide) (hts _ (List.mem_cons_of_mem _ mw1009)) (fun _ h9 => h9) rfl dX3_feastDay_31 ?_
      refine lv_iload_n hx hb dX3_feastDay_34 rfl (lv_at hl 1 rfl) ?_
      refine kz_aald (v := r0 2 p1) hx hb hM.1 hP 3 rfl (by omega) (by decide) rfl dX3_feastDay_35 ?_
      refine lv_iconst (v := iZ 1) hx hb dX3_feastDay_36 rfl ?_
      refine kz_iald (v := σ 4 p1) hx hb hM.1 hP (9 + p1) 0 (kY_F _ hp1) rfl (by omega) (by decide) rfl dX3_feastDay_37 ?_
      refine lv_istore (lv' := [(4, .int (iZ (σ 4 p1))), (0, .ref m0), (1, .int (iZ ((p1 : Nat) : Int))), (2, .int (iZ dd)), (3, .int (iZ (bZ (bb))))]) hx hb dX3_feastDay_38 hl (by decide) rfl (fun ls hl => ?_)
      refine lv_aload_n hx hb dX3_feastDay_40 rfl (lv_at hl 1 rfl) ?_
      refine lv_iload_n hx hb dX3_feastDay_41 rfl (lv_at hl 2 rfl) ?_
      refine lv_aload_n hx hb dX3_feastDay_42 rfl (lv_at hl 1 rfl) ?_
      refine va_get (D := (dC, dI)) (ci := 6) (v := .ref (r0 0 3)) (C := RX3) (T := TX3) (N := 6) hx hb hts (fun w h => List.mem_cons_of_mem _ (gF_2_in h)) hown hM.1 hP 0 rfl rfl 2 (by decide) (hts _ (List.mem_cons_of_mem _ mw1009)) (fun _ h9 => h9) rfl dX3_feastDay_43 ?_
      refine lv_iload_n hx hb dX3_feastDay_46 rfl (lv_at hl 2 rfl) ?_
      refine kz_aald (v := r0 2 p1) hx hb hM.1 hP 3 rfl (by omega) (by decide) rfl dX3_feastDay_47 ?_
      refine lv_iconst (v := iZ 0) hx hb dX3_feastDay_48 rfl ?_
      refine kz_iald (v := σ 3 p1) hx hb hM.1 hP (9 + p1) 0 (kY_F _ hp1) rfl (by omega) (by decide) rfl dX3_feastDay_49 ?_
      refine lv_iload_n hx hb dX3_feastDay_50 rfl (lv_at hl 3 rfl) ?_
      refine kc2 (va_runV (As := [.int (iZ ((p1 : Nat) : Int)), .int (iZ (σ 3 p1)), .int (iZ dd)]) (rest := []) ⟨hx, hb, hml, hown, hts⟩ (c_X3_isPutFeast l dC dI dA k m0 (r0) (σ) (0) _ (va_Pl hP) hr hOK p1 ((σ 3 p1)) (dd) hp1 (by first | omega | (unfold sgn; (try split) <;> omega)) (by first | omega | (unfold sgn; (try split) <;> omega))) (cwV 3 hts (kg_V mw1180 mw1181 mw32 mw47 rfl mw1182) rfl rfl rfl hdV_X3_isPutFeast ⟨Nat.le_of_ble_eq_true rfl, Nat.le_of_ble_eq_true rfl⟩) ⟨fun a U g mk q => ⟨q.1, q.2.1, kM_call q.2.2⟩, va_recv hM.1 hP (ci := 6) (q0 := 0) rfl rfl, fun U hU hW => ⟨rfl, hU, kM_kept hM hS hAN hU hW⟩⟩ rfl rfl hl.1 rfl (lv_room (Nat.le_of_ble_eq_true rfl)) dX3_feastDay_51 ⟨Nat.le_of_ble_eq_true rfl, Nat.le_of_ble_eq_true rfl⟩) hS (fun a _ h => kAy_tr hrA hS.1 a h) (fun a h => kAy_tr hrA hS.1 a h) (fun H locs hG hz9 hk9 hS9 => ?_)
      obtain ⟨r_3, hr, hrA9, hP⟩ := hG
      have hrA := kAy_tr2 hrA hS.1 hrA9
      have hS := hS9
      have hP : va_P (dC, dI) vwCl (kY dA m0 r_3 (putFs σ p1 (((σ 3 p1))) ((dd))) (0) ++ ([] : va_W)) _ := hP
      have hD : va_D (kAy m0 r0 s.heap.size) (kY dA m0 r_3 (putFs σ p1 (((σ 3 p1))) ((dd))) (0) ++ ([] : va_W)) := by rw [← kap]; exact kYD_A hr hrA
      refine kz_ifb_eq (tgt := 62) hx hb  dX3_feastDay_54 (by decide) (fun c_4 => ?_) (fun c_4 => ?_)
      · refine lv_bipush (v := iZ (-9)) hx hb dX3_feastDay_62 rfl ?_
        refine W.widen (k := 1) (n := 2) (Nat.le_of_ble_eq_true rfl) (Nat.le_of_ble_eq_true rfl) ?_
        exact W.iret (v := iZ ((-9))) hx hb hr9 (fun t ht hW => ⟨⟨congrArg (fun z : Int => Outcome.returned (some (Value.int (iZ z)))) (show ((-9)) = (if ex2 (!inb ((p1 : Nat) : Int) 0 3) (!inb dd 1 31) = 0 then (if putFr (σ 3 p1) dd = true then σ 4 p1 else -9) else 0) from by rw [if_pos hZ]; rw [if_neg (by simp [*])]), gY_cast ⟨r_3, hr, hrA, by rw [ht]; exact va_Pl hP⟩ (show (putFs σ p1 (((σ 3 p1))) ((dd))) = (if ex2 (!inb ((p1 : Nat) : Int) 0 3) (!inb dd 1 31) = 0 then (putFs σ p1 (σ 3 p1) dd) else σ) from by rw [if_pos hZ]; done) (show (0) = ex2 (!inb ((p1 : Nat) : Int) 0 3) (!inb dd 1 31) from hZ.symm)⟩, hS.F ht⟩) hS.2.2 dX3_feastDay_64
      · refine lv_iload hx hb dX3_feastDay_57 (lv_at hl 0 rfl) ?_
        refine lv_goto (tgt := 64) hx hb dX3_feastDay_59 (by decide) ?_
        refine W.widen (k := 1) (n := 2) (Nat.le_of_ble_eq_true rfl) (Nat.le_of_ble_eq_true rfl) ?_
        exact W.iret (v := iZ (σ 4 p1)) hx hb hr9 (fun t ht hW => ⟨⟨congrArg (fun z : Int => Outcome.returned (some (Value.int (iZ z)))) (show (σ 4 p1) = (if ex2 (!inb ((p1 : Nat) : Int) 0 3) (!inb dd 1 31) = 0 then (if putFr (σ 3 p1) dd = true then σ 4 p1 else -9) else 0) from by rw [if_pos hZ]; rw [if_pos (by assumption)]), gY_cast ⟨r_3, hr, hrA, by rw [ht]; exact va_Pl hP⟩ (show (putFs σ p1 (((σ 3 p1))) ((dd))) = (if ex2 (!inb ((p1 : Nat) : Int) 0 3) (!inb dd 1 31) = 0 then (putFs σ p1 (σ 3 p1) dd) else σ) from by rw [if_pos hZ]; done) (show (0) = ex2 (!inb ((p1 : Nat) : Int) 0 3) (!inb dd 1 31) from hZ.symm)⟩, hS.F ht⟩) hS.2.2 dX3_feastDay_64
    · have hX : ex2 (!inb z1 0 3) (!inb dd 1 31) = ex2 (!inb ((z1)) 0 3) false := by first | rfl | simp only [c_1, Bool.true_or, Bool.or_true, Bool.false_or, Bool.or_false, Bool.not_true, Bool.not_false]
      have hN : ¬ ex2 (!inb z1 0 3) (!inb dd 1 31) = 0 := kf_ne hX c_2
      refine lv_iconst (v := iZ 0) hx hb dX3_feastDay_28 rfl ?_
      refine W.widen (k := 1) (n := 2) (Nat.le_of_ble_eq_true rfl) (Nat.le_of_ble_eq_true rfl) ?_
      exact W.iret (v := iZ 0) hx hb hr9 (fun t ht hW => ⟨⟨congrArg (fun z : Int => Outcome.returned (some (Value.int (iZ z)))) (show 0 = (if ex2 (!inb z1 0 3) (!inb dd 1 31) = 0 then (if putFr (σ 3 (z1.toNat)) dd = true then σ 4 (z1.toNat) else -9) else 0) from by rw [if_neg hN]), gY_cast ⟨r0, hr, hrA, by rw [ht]; exact va_Pl hP⟩ (show (σ) = (if ex2 (!inb z1 0 3) (!inb dd 1 31) = 0 then (putFs σ (z1.toNat) (σ 3 (z1.toNat)) dd) else σ) from by rw [if_neg hN]) (show (ex2 ((!inb ((z1)) 0 3)) false) = ex2 (!inb z1 0 3) (!inb dd 1 31) from hX.symm)⟩, hS.F ht⟩) hS.2.2 dX3_feastDay_29
  · refine lv_iconst (v := iZ 1) hx hb dX3_feastDay_17 rfl ?_
    refine lv_goto (tgt := 22) hx hb dX3_feastDay_18 (by decide) ?_
    refine kc2 (va_runV (As := [.int (iZ (bZ (!inb ((z1)) 0 3))), .int (iZ (bZ true))]) (rest := []) ⟨hx, hb, hml, hown, hts⟩ (c_X3_fails l dC dI dA k m0 (r0) (σ) (th) _ (va_Pl hP) hr hOK (!inb ((z1)) 0 3) true ) (cwV 2 hts (kg_V mw1037 mw1038 mw27 mw47 rfl mw1039) rfl rfl rfl hdV_X3_fails ⟨Nat.le_of_ble_eq_true rfl, Nat.le_of_ble_eq_true rfl⟩) ⟨fun a U g mk q => ⟨q.1, q.2.1, kM_call q.2.2⟩, va_recv hM.1 hP (ci := 6) (q0 := 0) rfl rfl, fun U hU hW => ⟨rfl, hU, kM_kept hM hS hAN hU hW⟩⟩ rfl rfl hl.1 rfl (lv_room (Nat.le_of_ble_eq_true rfl)) dX3_feastDay_22 ⟨Nat.le_of_ble_eq_true rfl, Nat.le_of_ble_eq_true rfl⟩) hS (fun a _ h => kAy_tr hrA hS.1 a h) (fun a h => kAy_tr hrA hS.1 a h) (fun H locs hP9 hz9 hk9 hS => ?_)
    have hP : va_P (dC, dI) vwCl (kY dA m0 r0 σ (ex2 ((!inb ((z1)) 0 3)) true) ++ ([] : va_W)) _ := hP9
    have hD : va_D (kAy m0 r0 s.heap.size) (kY dA m0 r0 σ (ex2 ((!inb ((z1)) 0 3)) true) ++ ([] : va_W)) := by rw [← kap]; exact kYD_A hr hrA
    refine kz_ifb_eq (tgt := 30) hx hb  dX3_feastDay_25 (by decide) (fun c_5 => absurd (kf_f c_5).2 (by decide)) (fun c_5 => ?_)
    have hX : ex2 (!inb z1 0 3) (!inb dd 1 31) = ex2 (!inb ((z1)) 0 3) true := by first | rfl | simp only [c_1, Bool.true_or, Bool.or_true, Bool.false_or, Bool.or_false, Bool.not_true, Bool.not_false]
    have hN : ¬ ex2 (!inb z1 0 3) (!inb dd 1 31) = 0 := kf_ne hX c_5
    refine lv_iconst (v := iZ 0) hx hb dX3_feastDay_28 rfl ?_
    refine W.widen (k := 1) (n := 2) (Nat.le_of_ble_eq_true rfl) (Nat.le_of_ble_eq_true rfl) ?_
    exact W.iret (v := iZ 0) hx hb hr9 (fun t ht hW => ⟨⟨congrArg (fun z : Int => Outcome.returned (some (Value.int (iZ z)))) (show 0 = (if ex2 (!inb z1 0 3) (!inb dd 1 31) = 0 then (if putFr (σ 3 (z1.toNat)) dd = true then σ 4 (z1.toNat) else -9) else 0) from by rw [if_neg hN]), gY_cast ⟨r0, hr, hrA, by rw [ht]; exact va_Pl hP⟩ (show (σ) = (if ex2 (!inb z1 0 3) (!inb dd 1 31) = 0 then (putFs σ (z1.toNat) (σ 3 (z1.toNat)) dd) else σ) from by rw [if_neg hN]) (show (ex2 ((!inb ((z1)) 0 3)) true) = ex2 (!inb z1 0 3) (!inb dd 1 31) from hX.symm)⟩, hS.F ht⟩) hS.2.2 dX3_feastDay_29

abbrev ww_X3_feastLike : List Cond := .code yX3_feastLike cX3_feastLike 4 (some .int) :: gT
set_option maxHeartbeats 4000000 in
set_option maxRecDepth 100000 in
theorem c_X3_feastLike (l : Launch) (dC : Nat → ClassId) (dI : Nat → Nat → Nat) (dA : Nat → ClassId) (k : Nat → Nat) (m0 : Nat) (r0 : Nat → Nat → Nat) (σ : Nat → Nat → Int) (th : Int) (H0 : Heap) (hP : va_P (dC, dI) vwCl (kY dA m0 r0 σ th) H0) (hr : kRI m0 r0 k) (hOK : kOK σ) (z1 : Int) (z2 : Int) (rz1 : -2147483648 ≤ z1 ∧ z1 < 2147483648) (rz2 : -2147483648 ≤ z2 ∧ z2 < 2147483648) : Met l yX3_feastLike ww_X3_feastLike ({ frames := 4, cells := 1, slots := 2, locals := 88 }) (va_Pc [.ref m0, .int (iZ z1), .int (iZ z2)] (fun U => U.heap = H0 ∧ kM dC dI dA k U)) (kQ2 (some (.int (iZ (if ex2 (!inb z1 0 3 || !inb z2 0 3) (false) = 0 then (bZ (decide (σ 3 (z1.toNat) = σ 3 (z2.toNat) ∧ σ 4 (z1.toNat) = σ 4 (z2.toNat)))) else 0)))) (gY dC dI dA k m0 r0 H0.size (if ex2 (!inb z1 0 3 || !inb z2 0 3) (false) = 0 then (sU (sU σ 3 (z1.toNat) (σ 3 (z2.toNat))) 4 (z1.toNat) (σ 4 (z2.toNat))) else σ) (ex2 (!inb z1 0 3 || !inb z2 0 3) (false))) (kAy m0 r0 H0.size)) 1 2 (kAy m0 r0 H0.size) := by
  refine Met.ofW (cc := cX3_feastLike) (maxL := 4) (ret := (some .int)) (by decide) rfl ?_
  intro p e s m args below meth c s₁ B hml hv
  obtain ⟨rfl, hH, hM⟩ := hv
  subst hH
  have hr0 := hr
  have hAN : ∀ a, kAy m0 r0 s.heap.size a → k 0 ≤ a := fun a h => kAy_N hr0 hM.2.1.1 a h
  have hrA : ∀ i : Nat, i < 17 → kAy m0 r0 s.heap.size (kR m0 r0 i) := fun i hi => Or.inl ⟨i, hi, rfl⟩
  have hD : va_D (kAy m0 r0 s.heap.size) (kY dA m0 r0 σ (th) ++ ([] : va_W)) := by rw [← kap]; exact kYD_A hr hrA
  have hP : va_P (dC, dI) vwCl (kY dA m0 r0 σ (th) ++ ([] : va_W)) s.heap := hP
  have hS : va_S (kAy m0 r0 s.heap.size) s.heap s.heap [] := va_S.rf
  have hx := B.exec
  have hb := B.bytes
  have hr9 := B.returns
  have hts := atoms_spec (ws := ww_X3_feastLike) B.pre
  have hown : s.vm.findClass RX3 = some m.cls := findClass_of_methodNamed B.named
  have hlocks := B.notSynchronized
  have hl := lv_entry ([.ref m0, .int (iZ z1), .int (iZ z2)]) (n := 4) (Nat.le_of_ble_eq_true rfl)
  rw [lg_entry_eq]
  generalize (lg_sl ([.ref m0, .int (iZ z1), .int (iZ z2)]) ++ List.replicate (4 - (lg_sl ([.ref m0, .int (iZ z1), .int (iZ z2)])).length) Slot.unset).toArray = ls at hl ⊢
  have hl : lv_has ls 4 [(0, .ref m0), (1, .int (iZ z1)), (2, .int (iZ z2))] := hl
  refine lv_aload_n hx hb dX3_feastLike_0 rfl (lv_at hl 0 rfl) ?_
  refine lv_iload_n hx hb dX3_feastLike_1 rfl (lv_at hl 1 rfl) ?_
  refine kc0 (fun _ q => q) (va_runS (As := [.int (iZ z1)]) (rest := [.ref m0]) ⟨hx, hb, hml, hown, hts⟩ (c_X3_isNo l _ (z1) (by first | omega | (unfold sgn; (try split) <;> omega))) (va_cwS 1 hts (kg_S mw1021 mw1022 mw47 rfl mw1023) rfl rfl rfl hdS_X3_isNo ⟨Nat.le_of_ble_eq_true rfl, Nat.le_of_ble_eq_true rfl⟩) ⟨fun a U g mk q => q, fun U hU hW => ⟨rfl, hU⟩⟩ rfl rfl hl.1 rfl (lv_room (Nat.le_of_ble_eq_true rfl)) dX3_feastLike_2 ⟨Nat.le_of_ble_eq_true rfl, Nat.le_of_ble_eq_true rfl⟩) ?_
  refine kz_ifb_ne (tgt := 15) hx hb  dX3_feastLike_5 (by decide) (fun c_1 => ?_) (fun c_1 => ?_)
  · refine lv_iconst (v := iZ 1) hx hb dX3_feastLike_15 rfl ?_
    refine lv_goto (tgt := 20) hx hb dX3_feastLike_16 (by decide) ?_
    refine lv_iconst (v := iZ 0) hx hb dX3_feastLike_20 rfl ?_
    refine kc2 (va_runV (As := [.int (iZ (bZ true)), .int (iZ (bZ false))]) (rest := []) ⟨hx, hb, hml, hown, hts⟩ (c_X3_fails l dC dI dA k m0 (r0) (σ) (th) _ (va_Pl hP) hr hOK true false ) (cwV 2 hts (kg_V mw1037 mw1038 mw27 mw47 rfl mw1039) rfl rfl rfl hdV_X3_fails ⟨Nat.le_of_ble_eq_true rfl, Nat.le_of_ble_eq_true rfl⟩) ⟨fun a U g mk q => ⟨q.1, q.2.1, kM_call q.2.2⟩, va_recv hM.1 hP (ci := 6) (q0 := 0) rfl rfl, fun U hU hW => ⟨rfl, hU, kM_kept hM hS hAN hU hW⟩⟩ rfl rfl hl.1 rfl (lv_room (Nat.le_of_ble_eq_true rfl)) dX3_feastLike_21 ⟨Nat.le_of_ble_eq_true rfl, Nat.le_of_ble_eq_true rfl⟩) hS (fun a _ h => kAy_tr hrA hS.1 a h) (fun a h => kAy_tr hrA hS.1 a h) (fun H locs hP9 hz9 hk9 hS => ?_)
    have hP : va_P (dC, dI) vwCl (kY dA m0 r0 σ (ex2 true false) ++ ([] : va_W)) _ := hP9
    have hD : va_D (kAy m0 r0 s.heap.size) (kY dA m0 r0 σ (ex2 true false) ++ ([] : va_W)) := by rw [← kap]; exact kYD_A hr hrA
    refine kz_ifb_eq (tgt := 29) hx hb  dX3_feastLike_24 (by decide) (fun c_2 => absurd (kf_f c_2).1 (by decide)) (fun c_2 => ?_)
    have hX : ex2 (!inb z1 0 3 || !inb z2 0 3) (false) = ex2 true false := by first | rfl | simp only [c_1, Bool.true_or, Bool.or_true, Bool.false_or, Bool.or_false, Bool.not_true, Bool.not_false]
    have hN : ¬ ex2 (!inb z1 0 3 || !inb z2 0 3) (false) = 0 := kf_ne hX c_2
    refine lv_iconst (v := iZ 0) hx hb dX3_feastLike_27 rfl ?_
    refine W.widen (k := 1) (n := 2) (Nat.le_of_ble_eq_true rfl) (Nat.le_of_ble_eq_true rfl) ?_
    exact W.iret (v := iZ 0) hx hb hr9 (fun t ht hW => ⟨⟨congrArg (fun z : Int => Outcome.returned (some (Value.int (iZ z)))) (show 0 = (if ex2 (!inb z1 0 3 || !inb z2 0 3) (false) = 0 then (bZ (decide (σ 3 (z1.toNat) = σ 3 (z2.toNat) ∧ σ 4 (z1.toNat) = σ 4 (z2.toNat)))) else 0) from by rw [if_neg hN]), gY_cast ⟨r0, hr, hrA, by rw [ht]; exact va_Pl hP⟩ (show (σ) = (if ex2 (!inb z1 0 3 || !inb z2 0 3) (false) = 0 then (sU (sU σ 3 (z1.toNat) (σ 3 (z2.toNat))) 4 (z1.toNat) (σ 4 (z2.toNat))) else σ) from by rw [if_neg hN]) (show (ex2 true false) = ex2 (!inb z1 0 3 || !inb z2 0 3) (false) from hX.symm)⟩, hS.F ht⟩) hS.2.2 dX3_feastLike_28
  · refine lv_iload_n hx hb dX3_feastLike_8 rfl (lv_at hl 2 rfl) ?_
    refine kc0 (fun _ q => q) (va_runS (As := [.int (iZ z2)]) (rest := [.ref m0]) ⟨hx, hb, hml, hown, hts⟩ (c_X3_isNo l _ (z2) (by first | omega | (unfold sgn; (try split) <;> omega))) (va_cwS 1 hts (kg_S mw1021 mw1022 mw47 rfl mw1023) rfl rfl rfl hdS_X3_isNo ⟨Nat.le_of_ble_eq_true rfl, Nat.le_of_ble_eq_true rfl⟩) ⟨fun a U g mk q => q, fun U hU hW => ⟨rfl, hU⟩⟩ rfl rfl hl.1 rfl (lv_room (Nat.le_of_ble_eq_true rfl)) dX3_feastLike_9 ⟨Nat.le_of_ble_eq_true rfl, Nat.le_of_ble_eq_true rfl⟩) ?_
    refine kz_ifb_eq (tgt := 19) hx hb  dX3_feastLike_12 (by decide) (fun c_3 => ?_) (fun c_3 => ?_)
    · refine lv_iconst (v := iZ 0) hx hb dX3_feastLike_19 rfl ?_
      refine lv_iconst (v := iZ 0) hx hb dX3_feastLike_20 rfl ?_
      refine kc2 (va_runV (As := [.int (iZ (bZ false)), .int (iZ (bZ false))]) (rest := []) ⟨hx, hb, hml, hown, hts⟩ (c_X3_fails l dC dI dA k m0 (r0) (σ) (th) _ (va_Pl hP) hr hOK false false ) (cwV 2 hts (kg_V mw1037 mw1038 mw27 mw47 rfl mw1039) rfl rfl rfl hdV_X3_fails ⟨Nat.le_of_ble_eq_true rfl, Nat.le_of_ble_eq_true rfl⟩) ⟨fun a U g mk q => ⟨q.1, q.2.1, kM_call q.2.2⟩, va_recv hM.1 hP (ci := 6) (q0 := 0) rfl rfl, fun U hU hW => ⟨rfl, hU, kM_kept hM hS hAN hU hW⟩⟩ rfl rfl hl.1 rfl (lv_room (Nat.le_of_ble_eq_true rfl)) dX3_feastLike_21 ⟨Nat.le_of_ble_eq_true rfl, Nat.le_of_ble_eq_true rfl⟩) hS (fun a _ h => kAy_tr hrA hS.1 a h) (fun a h => kAy_tr hrA hS.1 a h) (fun H locs hP9 hz9 hk9 hS => ?_)
      have hP : va_P (dC, dI) vwCl (kY dA m0 r0 σ (ex2 false false) ++ ([] : va_W)) _ := hP9
      have hD : va_D (kAy m0 r0 s.heap.size) (kY dA m0 r0 σ (ex2 false false) ++ ([] : va_W)) := by rw [← kap]; exact kYD_A hr hrA
      refine kz_ifb_eq (tgt := 29) hx hb  dX3_feastLike_24 (by decide) (fun c_4 => ?_) (fun c_4 => absurd (show ex2 false false = 0 from rfl) (kf_t c_4))
      have hX : ex2 (!inb z1 0 3 || !inb z2 0 3) (false) = ex2 false false := by first | rfl | simp only [c_1, c_3, Bool.true_or, Bool.or_true, Bool.false_or, Bool.or_false, Bool.not_true, Bool.not_false]
      have hZ : ex2 (!inb z1 0 3 || !inb z2 0 3) (false) = 0 := kf_eq hX c_4
      obtain ⟨hA9, hB9⟩ := ex2_z hZ
      simp only [Bool.or_eq_false_iff, Bool.not_eq_false', Bool.not_eq_true', inb, decide_eq_true_eq, decide_eq_false_iff_not, noThing_niff] at hA9
      obtain ⟨p1, hp1, rfl⟩ : ∃ p1 : Nat, p1 < 4 ∧ z1 = (p1 : Int) := ⟨z1.toNat, by omega, by omega⟩
      have o_p1 := kOKr hOK hp1
      have l_p1 := mlen_rng (leap (σ 0 p1)) (σ 1 p1)
      have n_p1 := dnum_rng (y := σ 5 p1) (m := σ 6 p1) (d := σ 7 p1) (by omega) (by omega) (by omega)
      obtain ⟨p2, hp2, rfl⟩ : ∃ p2 : Nat, p2 < 4 ∧ z2 = (p2 : Int) := ⟨z2.toNat, by omega, by omega⟩
      have o_p2 := kOKr hOK hp2
      have l_p2 := mlen_rng (leap (σ 0 p2)) (σ 1 p2)
      have n_p2 := dnum_rng (y := σ 5 p2) (m := σ 6 p2) (d := σ 7 p2) (by omega) (by omega) (by omega)
      have hP := kY0 hP (kf_e c_4)
      have hD := kD0 hD (kf_e c_4)
      refine lv_aload_n hx hb dX3_feastLike_29 rfl (lv_at hl 0 rfl) ?_
      refine va_get (D := (dC, dI)) (ci := 6) (v := .ref (r0 0 3)) (C := RX3) (T := TX3) (N := 6) hx hb hts (fun w h => List.mem_cons_of_mem _ (gF_2_in h)) hown hM.1 hP 0 rfl rfl 2 (by decide) (hts _ (List.mem_cons_of_mem _ mw1009)) (fun _ h9 => h9) rfl dX3_feastLike_30 ?_
      refine lv_iload_n hx hb dX3_feastLike_33 rfl (lv_at hl 1 rfl) ?_
      refine kz_aald (v := r0 2 p1) hx hb hM.1 hP 3 rfl (by omega) (by decide) rfl dX3_feastLike_34 ?_
      refine lv_aload_n hx hb dX3_feastLike_35 rfl (lv_at hl 0 rfl) ?_
      refine va_get (D := (dC, dI)) (ci := 6) (v := .ref (r0 0 3)) (C := RX3) (T := TX3) (N := 6) hx hb hts (fun w h => List.mem_cons_of_mem _ (gF_2_in h)) hown hM.1 hP 0 rfl rfl 2 (by decide) (hts _ (List.mem_cons_of_mem _ mw1009)) (fun _ h9 => h9) rfl dX3_feastLike_36 ?_
      refine lv_iload_n hx hb dX3_feastLike_39 rfl (lv_at hl 2 rfl) ?_
      refine kz_aald (v := r0 2 p2) hx hb hM.1 hP 3 rfl (by omega) (by decide) rfl dX3_feastLike_40 ?_
      refine kc0 (fun _ q => q) (va_runS (As := [.ref (r0 2 p1), .ref (r0 2 p2)]) (rest := []) ⟨hx, hb, hml, hown, hts⟩ (c_X3_areSame l dC dI dA k _ _ hP (9 + p1) (r0 2 p1) _ (σ 3 p1) (σ 4 p1) (9 + p2) (r0 2 p2) _ (σ 3 p2) (σ 4 p2) (kY_F _ hp1) rfl rfl (kY_F _ hp2) rfl rfl (by first | omega | (unfold sgn; (try split) <;> omega)) (by first | omega | (unfold sgn; (try split) <;> omega)) (by first | omega | (unfold sgn; (try split) <;> omega)) (by first | omega | (unfold sgn; (try split) <;> omega))) (va_cwS 2 hts (kg_S mw1141 mw1142 mw47 rfl mw1143) rfl rfl rfl hdS_X3_areSame ⟨Nat.le_of_ble_eq_true rfl, Nat.le_of_ble_eq_true rfl⟩) ⟨fun a U g mk q => ⟨q.1, q.2.1, kM_call q.2.2⟩, fun U hU hW => ⟨rfl, hU, kM_kept hM hS hAN hU hW⟩⟩ rfl rfl hl.1 rfl (lv_room (Nat.le_of_ble_eq_true rfl)) dX3_feastLike_41 ⟨Nat.le_of_ble_eq_true rfl, Nat.le_of_ble_eq_true rfl⟩) ?_
      refine lv_istore_n (lv' := [(3, .int (iZ (bZ (decide (((σ 3 p1)) = ((σ 3 p2)) ∧ ((σ 4 p1)) = ((σ 4 p2))))))), (0, .ref m0), (1, .int (iZ ((p1 : Nat) : Int))), (2, .int (iZ ((p2 : Nat) : Int)))]) hx hb dX3_feastLike_44 rfl hl (by decide) rfl (fun ls hl => ?_)
      refine lv_aload_n hx hb dX3_feastLike_45 rfl (lv_at hl 1 rfl) ?_
      refine lv_iload_n hx hb dX3_feastLike_46 rfl (lv_at hl 2 rfl) ?_
      refine lv_aload_n hx hb dX3_feastLike_47 rfl (lv_at hl 1 rfl) ?_
      refine va_get (D := (dC, dI)) (ci := 6) (v := .ref (r0 0 3)) (C := RX3) (T := TX3) (N := 6) hx hb hts (fun w h => List.mem_cons_of_mem _ (gF_2_in h)) hown hM.1 hP 0 rfl rfl 2 (by decide) (hts _ (List.mem_cons_of_mem _ mw1009)) (fun _ h9 => h9) rfl dX3_feastLike_48 ?_
      refine lv_iload_n hx hb dX3_feastLike_51 rfl (lv_at hl 3 rfl) ?_
      refine kz_aald (v := r0 2 p2) hx hb hM.1 hP 3 rfl (by omega) (by decide) rfl dX3_feastLike_52 ?_
      refine lv_iconst (v := iZ 0) hx hb dX3_feastLike_53 rfl ?_
      refine kz_iald (v := σ 3 p2) hx hb hM.1 hP (9 + p2) 0 (kY_F _ hp2) rfl (by omega) (by decide) rfl dX3_feastLike_54 ?_
      refine lv_aload_n hx hb dX3_feastLike_55 rfl (lv_at hl 1 rfl) ?_
      refine va_get (D := (dC, dI)) (ci := 6) (v := .ref (r0 0 3)) (C := RX3) (T := TX3) (N := 6) hx hb hts (fun w h => List.mem_cons_of_mem _ (gF_2_in h)) hown hM.1 hP 0 rfl rfl 2 (by decide) (hts _ (List.mem_cons_of_mem _ mw1009)) (fun _ h9 => h9) rfl dX3_feastLike_56 ?_
      refine lv_iload_n hx hb dX3_feastLike_59 rfl (lv_at hl 3 rfl) ?_
      refine kz_aald (v := r0 2 p2) hx hb hM.1 hP 3 rfl (by omega) (by decide) rfl dX3_feastLike_60 ?_
      refine lv_iconst (v := iZ 1) hx hb dX3_feastLike_61 rfl ?_
      refine kz_iald (v := σ 4 p2) hx hb hM.1 hP (9 + p2) 0 (kY_F _ hp2) rfl (by omega) (by decide) rfl dX3_feastLike_62 ?_
      refine kc2 (va_runV (As := [.int (iZ ((p1 : Nat) : Int)), .int (iZ (σ 3 p2)), .int (iZ (σ 4 p2))]) (rest := []) ⟨hx, hb, hml, hown, hts⟩ (c_X3_isPutFeast l dC dI dA k m0 (r0) (σ) (0) _ (va_Pl hP) hr hOK p1 ((σ 3 p2)) ((σ 4 p2)) hp1 (by first | omega | (unfold sgn; (try split) <;> omega)) (by first | omega | (unfold sgn; (try split) <;> omega))) (cwV 3 hts (kg_V mw1180 mw1181 mw32 mw47 rfl mw1182) rfl rfl rfl hdV_X3_isPutFeast ⟨Nat.le_of_ble_eq_true rfl, Nat.le_of_ble_eq_true rfl⟩) ⟨fun a U g mk q => ⟨q.1, q.2.1, kM_call q.2.2⟩, va_recv hM.1 hP (ci := 6) (q0 := 0) rfl rfl, fun U hU hW => ⟨rfl, hU, kM_kept hM hS hAN hU hW⟩⟩ rfl rfl hl.1 rfl (lv_room (Nat.le_of_ble_eq_true rfl)) dX3_feastLike_63 ⟨Nat.le_of_ble_eq_true rfl, Nat.le_of_ble_eq_true rfl⟩) hS (fun a _ h => kAy_tr hrA hS.1 a h) (fun a h => kAy_tr hrA hS.1 a h) (fun H locs hG hz9 hk9 hS9 => ?_)
      obtain ⟨r_5, hr, hrA9, hP⟩ := hG
      have hrA := kAy_tr2 hrA hS.1 hrA9
      have hS := hS9
      have hP : va_P (dC, dI) vwCl (kY dA m0 r_5 (putFs σ p1 (((σ 3 p2))) (((σ 4 p2)))) (0) ++ ([] : va_W)) _ := hP
      have hD : va_D (kAy m0 r0 s.heap.size) (kY dA m0 r_5 (putFs σ p1 (((σ 3 p2))) (((σ 4 p2)))) (0) ++ ([] : va_W)) := by rw [← kap]; exact kYD_A hr hrA
      refine lv_pop hx hb dX3_feastLike_66 rfl ?_
      refine lv_iload_n hx hb dX3_feastLike_67 rfl (lv_at hl 0 rfl) ?_
      refine kc0 (fun _ q => q) (va_runS (As := [.int (iZ (bZ (decide (((σ 3 p1)) = ((σ 3 p2)) ∧ ((σ 4 p1)) = ((σ 4 p2))))))]) (rest := []) ⟨hx, hb, hml, hown, hts⟩ (c_X3_bit l _ (decide (((σ 3 p1)) = ((σ 3 p2)) ∧ ((σ 4 p1)) = ((σ 4 p2))))) (va_cwS 1 hts (kg_S mw1116 mw1117 mw47 rfl mw1118) rfl rfl rfl hdS_X3_bit ⟨Nat.le_of_ble_eq_true rfl, Nat.le_of_ble_eq_true rfl⟩) ⟨fun a U g mk q => q, fun U hU hW => ⟨rfl, hU⟩⟩ rfl rfl hl.1 rfl (lv_room (Nat.le_of_ble_eq_true rfl)) dX3_feastLike_68 ⟨Nat.le_of_ble_eq_true rfl, Nat.le_of_ble_eq_true rfl⟩) ?_
      refine W.widen (k := 1) (n := 2) (Nat.le_of_ble_eq_true rfl) (Nat.le_of_ble_eq_true rfl) ?_
      exact W.iret (v := iZ (bZ ((decide (((σ 3 p1)) = ((σ 3 p2)) ∧ ((σ 4 p1)) = ((σ 4 p2))))))) hx hb hr9 (fun t ht hW => ⟨⟨congrArg (fun z : Int => Outcome.returned (some (Value.int (iZ z)))) (show (bZ ((decide (((σ 3 p1)) = ((σ 3 p2)) ∧ ((σ 4 p1)) = ((σ 4 p2)))))) = (if ex2 (!inb ((p1 : Nat) : Int) 0 3 || !inb ((p2 : Nat) : Int) 0 3) (false) = 0 then (bZ (decide (σ 3 p1 = σ 3 p2 ∧ σ 4 p1 = σ 4 p2))) else 0) from by rw [if_pos hZ]; done), gY_cast ⟨r_5, hr, hrA, by rw [ht]; exact va_Pl hP⟩ (show (putFs σ p1 (((σ 3 p2))) (((σ 4 p2)))) = (if ex2 (!inb ((p1 : Nat) : Int) 0 3 || !inb ((p2 : Nat) : Int) 0 3) (false) = 0 then (sU (sU σ 3 p1 (σ 3 p2)) 4 p1 (σ 4 p2)) else σ) from by rw [if_pos hZ]; exact putFs_t (putFr_f hOK hp2)) (show (0) = ex2 (!inb ((p1 : Nat) : Int) 0 3 || !inb ((p2 : Nat) : Int) 0 3) (false) from hZ.symm)⟩, hS.F ht⟩) hS.2.2 dX3_feastLike_71
    · refine lv_iconst (v := iZ 1) hx hb dX3_feastLike_15 rfl ?_
      refine lv_goto (tgt := 20) hx hb dX3_feastLike_16 (by decide) ?_
      refine lv_iconst (v := iZ 0) hx hb dX3_feastLike_20 rfl ?_
      refine kc2 (va_runV (As := [.int (iZ (bZ true)), .int (iZ (bZ false))]) (rest := []) ⟨hx, hb, hml, hown, hts⟩ (c_X3_fails l dC dI dA k m0 (r0) (σ) (th) _ (va_Pl hP) hr hOK true false ) (cwV 2 hts (kg_V mw1037 mw1038 mw27 mw47 rfl mw1039) rfl rfl rfl hdV_X3_fails ⟨Nat.le_of_ble_eq_true rfl, Nat.le_of_ble_eq_true rfl⟩) ⟨fun a U g mk q => ⟨q.1, q.2.1, kM_call q.2.2⟩, va_recv hM.1 hP (ci := 6) (q0 := 0) rfl rfl, fun U hU hW => ⟨rfl, hU, kM_kept hM hS hAN hU hW⟩⟩ rfl rfl hl.1 rfl (lv_room (Nat.le_of_ble_eq_true rfl)) dX3_feastLike_21 ⟨Nat.le_of_ble_eq_true rfl, Nat.le_of_ble_eq_true rfl⟩) hS (fun a _ h => kAy_tr hrA hS.1 a h) (fun a h => kAy_tr hrA hS.1 a h) (fun H locs hP9 hz9 hk9 hS => ?_)
      have hP : va_P (dC, dI) vwCl (kY dA m0 r0 σ (ex2 true false) ++ ([] : va_W)) _ := hP9
      have hD : va_D (kAy m0 r0 s.heap.size) (kY dA m0 r0 σ (ex2 true false) ++ ([] : va_W)) := by rw [← kap]; exact kYD_A hr hrA
      refine kz_ifb_eq (tgt := 29) hx hb  dX3_feastLike_24 (by decide) (fun c_6 => absurd (kf_f c_6).1 (by decide)) (fun c_6 => ?_)
      have hX : ex2 (!inb z1 0 3 || !inb z2 0 3) (false) = ex2 true false := by first | rfl | simp only [c_1, c_3, Bool.true_or, Bool.or_true, Bool.false_or, Bool.or_false, Bool.not_true, Bool.not_false]
      have hN : ¬ ex2 (!inb z1 0 3 || !inb z2 0 3) (false) = 0 := kf_ne hX c_6
      refine lv_iconst (v := iZ 0) hx hb dX3_feastLike_27 rfl ?_
      refine W.widen (k := 1) (n := 2) (Nat.le_of_ble_eq_true rfl) (Nat.le_of_ble_eq_true rfl) ?_
      exact W.iret (v := iZ 0) hx hb hr9 (fun t ht hW => ⟨⟨congrArg (fun z : Int => Outcome.returned (some (Value.int (iZ z)))) (show 0 = (if ex2 (!inb z1 0 3 || !inb z2 0 3) (false) = 0 then (bZ (decide (σ 3 (z1.toNat) = σ 3 (z2.toNat) ∧ σ 4 (z1.toNat) = σ 4 (z2.toNat)))) else 0) from by rw [if_neg hN]), gY_cast ⟨r0, hr, hrA, by rw [ht]; exact va_Pl hP⟩ (show (σ) = (if ex2 (!inb z1 0 3 || !inb z2 0 3) (false) = 0 then (sU (sU σ 3 (z1.toNat) (σ 3 (z2.toNat))) 4 (z1.toNat) (σ 4 (z2.toNat))) else σ) from by rw [if_neg hN]) (show (ex2 true false) = ex2 (!inb z1 0 3 || !inb z2 0 3) (false) from hX.symm)⟩, hS.F ht⟩) hS.2.2 dX3_feastLike_28

abbrev ww_X3_feastOf : List Cond := .code yX3_feastOf cX3_feastOf 3 (some .int) :: gT
set_option maxHeartbeats 4000000 in
set_option maxRecDepth 100000 in
theorem c_X3_feastOf (l : Launch) (dC : Nat → ClassId) (dI : Nat → Nat → Nat) (dA : Nat → ClassId) (k : Nat → Nat) (m0 : Nat) (r0 : Nat → Nat → Nat) (σ : Nat → Nat → Int) (th : Int) (H0 : Heap) (hP : va_P (dC, dI) vwCl (kY dA m0 r0 σ th) H0) (hr : kRI m0 r0 k) (hOK : kOK σ) (z1 : Int) (z2 : Int) (rz1 : -2147483648 ≤ z1 ∧ z1 < 2147483648) (rz2 : -2147483648 ≤ z2 ∧ z2 < 2147483648) : Met l yX3_feastOf ww_X3_feastOf ({ frames := 4, cells := 1, slots := 2, locals := 88 }) (va_Pc [.ref m0, .int (iZ z1), .int (iZ z2)] (fun U => U.heap = H0 ∧ kM dC dI dA k U)) (kQ2 (some (.int (iZ (if ex2 (!inb z1 0 3 || !inb z2 0 3) (false) = 0 then (bZ (decide (σ 6 (z2.toNat) ≠ 2 ∨ σ 7 (z2.toNat) ≤ 28))) else 0)))) (gY dC dI dA k m0 r0 H0.size (if ex2 (!inb z1 0 3 || !inb z2 0 3) (false) = 0 then (putFs σ (z1.toNat) (σ 6 (z2.toNat)) (σ 7 (z2.toNat))) else σ) (ex2 (!inb z1 0 3 || !inb z2 0 3) (false))) (kAy m0 r0 H0.size)) 1 2 (kAy m0 r0 H0.size) := by
  refine Met.ofW (cc := cX3_feastOf) (maxL := 3) (ret := (some .int)) (by decide) rfl ?_
  intro p e s m args below meth c s₁ B hml hv
  obtain ⟨rfl, hH, hM⟩ := hv
  subst hH
  have hr0 := hr
  have hAN : ∀ a, kAy m0 r0 s.heap.size a → k 0 ≤ a := fun a h => kAy_N hr0 hM.2.1.1 a h
  have hrA : ∀ i : Nat, i < 17 → kAy m0 r0 s.heap.size (kR m0 r0 i) := fun i hi => Or.inl ⟨i, hi, rfl⟩
  have hD : va_D (kAy m0 r0 s.heap.size) (kY dA m0 r0 σ (th) ++ ([] : va_W)) := by rw [← kap]; exact kYD_A hr hrA
  have hP : va_P (dC, dI) vwCl (kY dA m0 r0 σ (th) ++ ([] : va_W)) s.heap := hP
  have hS : va_S (kAy m0 r0 s.heap.size) s.heap s.heap [] := va_S.rf
  have hx := B.exec
  have hb := B.bytes
  have hr9 := B.returns
  have hts := atoms_spec (ws := ww_X3_feastOf) B.pre
  have hown : s.vm.findClass RX3 = some m.cls := findClass_of_methodNamed B.named
  have hlocks := B.notSynchronized
  have hl := lv_entry ([.ref m0, .int (iZ z1), .int (iZ z2)]) (n := 3) (Nat.le_of_ble_eq_true rfl)
  rw [lg_entry_eq]
  generalize (lg_sl ([.ref m0, .int (iZ z1), .int (iZ z2)]) ++ List.replicate (3 - (lg_sl ([.ref m0, .int (iZ z1), .int (iZ z2)])).length) Slot.unset).toArray = ls at hl ⊢
  have hl : lv_has ls 3 [(0, .ref m0), (1, .int (iZ z1)), (2, .int (iZ z2))] := hl
  refine lv_aload_n hx hb dX3_feastOf_0 rfl (lv_at hl 0 rfl) ?_
  refine lv_iload_n hx hb dX3_feastOf_1 rfl (lv_at hl 1 rfl) ?_
  refine kc0 (fun _ q => q) (va_runS (As := [.int (iZ z1)]) (rest := [.ref m0]) ⟨hx, hb, hml, hown, hts⟩ (c_X3_isNo l _ (z1) (by first | omega | (rw [putFs_3 (putFr_d hOK hp2)]; omega) | (rw [putFs_4 (putFr_d hOK hp2)]; omega) | (rw [putFs_k (by decide) (by decide)]; omega))) (va_cwS 1 hts (kg_S mw1021 mw1022 mw47 rfl mw1023) rfl rfl rfl hdS_X3_isNo ⟨Nat.le_of_ble_eq_true rfl, Nat.le_of_ble_eq_true rfl⟩) ⟨fun a U g mk q => q, fun U hU hW => ⟨rfl, hU⟩⟩ rfl rfl hl.1 rfl (lv_room (Nat.le_of_ble_eq_true rfl)) dX3_feastOf_2 ⟨Nat.le_of_ble_eq_true rfl, Nat.le_of_ble_eq_true rfl⟩) ?_
  refine kz_ifb_ne (tgt := 15) hx hb  dX3_feastOf_5 (by decide) (fun c_1 => ?_) (fun c_1 => ?_)
  · refine lv_iconst (v := iZ 1) hx hb dX3_feastOf_15 rfl ?_
    refine lv_goto (tgt := 20) hx hb dX3_feastOf_16 (by decide) ?_
    refine lv_iconst (v := iZ 0) hx hb dX3_feastOf_20 rfl ?_
    refine kc2 (va_runV (As := [.int (iZ (bZ true)), .int (iZ (bZ false))]) (rest := []) ⟨hx, hb, hml, hown, hts⟩ (c_X3_fails l dC dI dA k m0 (r0) (σ) (th) _ (va_Pl hP) hr hOK true false ) (cwV 2 hts (kg_V mw1037 mw1038 mw27 mw47 rfl mw1039) rfl rfl rfl hdV_X3_fails ⟨Nat.le_of_ble_eq_true rfl, Nat.le_of_ble_eq_true rfl⟩) ⟨fun a U g mk q => ⟨q.1, q.2.1, kM_call q.2.2⟩, va_recv hM.1 hP (ci := 6) (q0 := 0) rfl rfl, fun U hU hW => ⟨rfl, hU, kM_kept hM hS hAN hU hW⟩⟩ rfl rfl hl.1 rfl (lv_room (Nat.le_of_ble_eq_true rfl)) dX3_feastOf_21 ⟨Nat.le_of_ble_eq_true rfl, Nat.le_of_ble_eq_true rfl⟩) hS (fun a _ h => kAy_tr hrA hS.1 a h) (fun a h => kAy_tr hrA hS.1 a h) (fun H locs hP9 hz9 hk9 hS => ?_)
    have hP : va_P (dC, dI) vwCl (kY dA m0 r0 σ (ex2 true false) ++ ([] : va_W)) _ := hP9
    have hD : va_D (kAy m0 r0 s.heap.size) (kY dA m0 r0 σ (ex2 true false) ++ ([] : va_W)) := by rw [← kap]; exact kYD_A hr hrA
    refine kz_ifb_eq (tgt := 29) hx hb  dX3_feastOf_24 (by decide) (fun c_2 => absurd (kf_f c_2).1 (by decide)) (fun c_2 => ?_)
    have hX : ex2 (!inb z1 0 3 || !inb z2 0 3) (false) = ex2 true false := by first | rfl | simp only [c_1, Bool.true_or, Bool.or_true, Bool.false_or, Bool.or_false, Bool.not_true, Bool.not_false]
    have hN : ¬ ex2 (!inb z1 0 3 || !inb z2 0 3) (false) = 0 := kf_ne hX c_2
    refine lv_iconst (v := iZ 0) hx hb dX3_feastOf_27 rfl ?_
    refine W.widen (k := 1) (n := 2) (Nat.le_of_ble_eq_true rfl) (Nat.le_of_ble_eq_true rfl) ?_
    exact W.iret (v := iZ 0) hx hb hr9 (fun t ht hW => ⟨⟨congrArg (fun z : Int => Outcome.returned (some (Value.int (iZ z)))) (show 0 = (if ex2 (!inb z1 0 3 || !inb z2 0 3) (false) = 0 then (bZ (decide (σ 6 (z2.toNat) ≠ 2 ∨ σ 7 (z2.toNat) ≤ 28))) else 0) from by rw [if_neg hN]), gY_cast ⟨r0, hr, hrA, by rw [ht]; exact va_Pl hP⟩ (show (σ) = (if ex2 (!inb z1 0 3 || !inb z2 0 3) (false) = 0 then (putFs σ (z1.toNat) (σ 6 (z2.toNat)) (σ 7 (z2.toNat))) else σ) from by rw [if_neg hN]) (show (ex2 true false) = ex2 (!inb z1 0 3 || !inb z2 0 3) (false) from hX.symm)⟩, hS.F ht⟩) hS.2.2 dX3_feastOf_28
  · refine lv_iload_n hx hb dX3_feastOf_8 rfl (lv_at hl 2 rfl) ?_
    refine kc0 (fun _ q => q) (va_runS (As := [.int (iZ z2)]) (rest := [.ref m0]) ⟨hx, hb, hml, hown, hts⟩ (c_X3_isNo l _ (z2) (by first | omega | (rw [putFs_3 (putFr_d hOK hp2)]; omega) | (rw [putFs_4 (putFr_d hOK hp2)]; omega) | (rw [putFs_k (by decide) (by decide)]; omega))) (va_cwS 1 hts (kg_S mw1021 mw1022 mw47 rfl mw1023) rfl rfl rfl hdS_X3_isNo ⟨Nat.le_of_ble_eq_true rfl, Nat.le_of_ble_eq_true rfl⟩) ⟨fun a U g mk q => q, fun U hU hW => ⟨rfl, hU⟩⟩ rfl rfl hl.1 rfl (lv_room (Nat.le_of_ble_eq_true rfl)) dX3_feastOf_9 ⟨Nat.le_of_ble_eq_true rfl, Nat.le_of_ble_eq_true rfl⟩) ?_
    refine kz_ifb_eq (tgt := 19) hx hb  dX3_feastOf_12 (by decide) (fun c_3 => ?_) (fun c_3 => ?_)
    · refine lv_iconst (v := iZ 0) hx hb dX3_feastOf_19 rfl ?_
      refine lv_iconst (v := iZ 0) hx hb dX3_feastOf_20 rfl ?_
      refine kc2 (va_runV (As := [.int (iZ (bZ false)), .int (iZ (bZ false))]) (rest := []) ⟨hx, hb, hml, hown, hts⟩ (c_X3_fails l dC dI dA k m0 (r0) (σ) (th) _ (va_Pl hP) hr hOK false false ) (cwV 2 hts (kg_V mw1037 mw1038 mw27 mw47 rfl mw1039) rfl rfl rfl hdV_X3_fails ⟨Nat.le_of_ble_eq_true rfl, Nat.le_of_ble_eq_true rfl⟩) ⟨fun a U g mk q => ⟨q.1, q.2.1, kM_call q.2.2⟩, va_recv hM.1 hP (ci := 6) (q0 := 0) rfl rfl, fun U hU hW => ⟨rfl, hU, kM_kept hM hS hAN hU hW⟩⟩ rfl rfl hl.1 rfl (lv_room (Nat.le_of_ble_eq_true rfl)) dX3_feastOf_21 ⟨Nat.le_of_ble_eq_true rfl, Nat.le_of_ble_eq_true rfl⟩) hS (fun a _ h => kAy_tr hrA hS.1 a h) (fun a h => kAy_tr hrA hS.1 a h) (fun H locs hP9 hz9 hk9 hS => ?_)
      have hP : va_P (dC, dI) vwCl (kY dA m0 r0 σ (ex2 false false) ++ ([] : va_W)) _ := hP9
      have hD : va_D (kAy m0 r0 s.heap.size) (kY dA m0 r0 σ (ex2 false false) ++ ([] : va_W)) := by rw [← kap]; exact kYD_A hr hrA
      refine kz_ifb_eq (tgt := 29) hx hb  dX3_feastOf_24 (by decide) (fun c_4 => ?_) (fun c_4 => absurd (show ex2 false false = 0 from rfl) (kf_t c_4))
      have hX : ex2 (!inb z1 0 3 || !inb z2 0 3) (false) = ex2 false false := by first | rfl | simp only [c_1, c_3, Bool.true_or, Bool.or_true, Bool.false_or, Bool.or_false, Bool.not_true, Bool.not_false]
      have hZ : ex2 (!inb z1 0 3 || !inb z2 0 3) (false) = 0 := kf_eq hX c_4
      obtain ⟨hA9, hB9⟩ := ex2_z hZ
      simp only [Bool.or_eq_false_iff, Bool.not_eq_false', Bool.not_eq_true', inb, decide_eq_true_eq, decide_eq_false_iff_not, noThing_niff] at hA9
      obtain ⟨p1, hp1, rfl⟩ : ∃ p1 : Nat, p1 < 4 ∧ z1 = (p1 : Int) := ⟨z1.toNat, by omega, by omega⟩
      have o_p1 := kOKr hOK hp1
      have l_p1 := mlen_rng (leap (σ 0 p1)) (σ 1 p1)
      have n_p1 := dnum_rng (y := σ 5 p1) (m := σ 6 p1) (d := σ 7 p1) (by omega) (by omega) (by omega)
      obtain ⟨p2, hp2, rfl⟩ : ∃ p2 : Nat, p2 < 4 ∧ z2 = (p2 : Int) := ⟨z2.toNat, by omega, by omega⟩
      have o_p2 := kOKr hOK hp2
      have l_p2 := mlen_rng (leap (σ 0 p2)) (σ 1 p2)
      have n_p2 := dnum_rng (y := σ 5 p2) (m := σ 6 p2) (d := σ 7 p2) (by omega) (by omega) (by omega)
      have hP := kY0 hP (kf_e c_4)
      have hD := kD0 hD (kf_e c_4)
      refine lv_aload_n hx hb dX3_feastOf_29 rfl (lv_at hl 0 rfl) ?_
      refine lv_iload_n hx hb dX3_feastOf_30 rfl (lv_at hl 1 rfl) ?_
      refine lv_aload_n hx hb dX3_feastOf_31 rfl (lv_at hl 0 rfl) ?_
      refine va_get (D := (dC, dI)) (ci := 6) (v := .ref (r0 0 4)) (C := RX3) (T := TX3) (N := 6) hx hb hts (fun w h => List.mem_cons_of_mem _ (gF_2_in h)) hown hM.1 hP 0 rfl rfl 3 (by decide) (hts _ (List.mem_cons_of_mem _ mw1010)) (fun _ h9 => h9) rfl dX3_feastOf_32 ?_
      refine lv_iload_n hx hb dX3_feastOf_35 rfl (lv_at hl 2 rfl) ?_
      refine kz_aald (v := r0 3 p2) hx hb hM.1 hP 4 rfl (by omega) (by decide) rfl dX3_feastOf_36 ?_
      refine lv_iconst (v := iZ 1) hx hb dX3_feastOf_37 rfl ?_
      refine kz_iald (v := σ 6 p2) hx hb hM.1 hP (13 + p2) 0 (kY_D _ hp2) rfl (by omega) (by decide) rfl dX3_feastOf_38 ?_
      refine lv_aload_n hx hb dX3_feastOf_39 rfl (lv_at hl 0 rfl) ?_
      refine va_get (D := (dC, dI)) (ci := 6) (v := .ref (r0 0 4)) (C := RX3) (T := TX3) (N := 6) hx hb hts (fun w h => List.mem_cons_of_mem _ (gF_2_in h)) hown hM.1 hP 0 rfl rfl 3 (by decide) (hts _ (List.mem_cons_of_mem _ mw1010)) (fun _ h9 => h9) rfl dX3_feastOf_40 ?_
      refine lv_iload_n hx hb dX3_feastOf_43 rfl (lv_at hl 2 rfl) ?_
      refine kz_aald (v := r0 3 p2) hx hb hM.1 hP 4 rfl (by omega) (by decide) rfl dX3_feastOf_44 ?_
      refine lv_iconst (v := iZ 2) hx hb dX3_feastOf_45 rfl ?_
      refine kz_iald (v := σ 7 p2) hx hb hM.1 hP (13 + p2) 0 (kY_D _ hp2) rfl (by omega) (by decide) rfl dX3_feastOf_46 ?_
      refine kc2 (va_runV (As := [.int (iZ ((p1 : Nat) : Int)), .int (iZ (σ 6 p2)), .int (iZ (σ 7 p2))]) (rest := []) ⟨hx, hb, hml, hown, hts⟩ (c_X3_isPutFeast l dC dI dA k m0 (r0) (σ) (0) _ (va_Pl hP) hr hOK p1 ((σ 6 p2)) ((σ 7 p2)) hp1 (by first | omega | (rw [putFs_3 (putFr_d hOK hp2)]; omega) | (rw [putFs_4 (putFr_d hOK hp2)]; omega) | (rw [putFs_k (by decide) (by decide)]; omega)) (by first | omega | (rw [putFs_3 (putFr_d hOK hp2)]; omega) | (rw [putFs_4 (putFr_d hOK hp2)]; omega) | (rw [putFs_k (by decide) (by decide)]; omega))) (cwV 3 hts (kg_V mw1180 mw1181 mw32 mw47 rfl mw1182) rfl rfl rfl hdV_X3_isPutFeast ⟨Nat.le_of_ble_eq_true rfl, Nat.le_of_ble_eq_true rfl⟩) ⟨fun a U g mk q => ⟨q.1, q.2.1, kM_call q.2.2⟩, va_recv hM.1 hP (ci := 6) (q0 := 0) rfl rfl, fun U hU hW => ⟨rfl, hU, kM_kept hM hS hAN hU hW⟩⟩ rfl rfl hl.1 rfl (lv_room (Nat.le_of_ble_eq_true rfl)) dX3_feastOf_47 ⟨Nat.le_of_ble_eq_true rfl, Nat.le_of_ble_eq_true rfl⟩) hS (fun a _ h => kAy_tr hrA hS.1 a h) (fun a h => kAy_tr hrA hS.1 a h) (fun H locs hG hz9 hk9 hS9 => ?_)
      obtain ⟨r_5, hr, hrA9, hP⟩ := hG
      have hrA := kAy_tr2 hrA hS.1 hrA9
      have hS := hS9
      have hP : va_P (dC, dI) vwCl (kY dA m0 r_5 (putFs σ p1 (((σ 6 p2))) (((σ 7 p2)))) (0) ++ ([] : va_W)) _ := hP
      have hD : va_D (kAy m0 r0 s.heap.size) (kY dA m0 r_5 (putFs σ p1 (((σ 6 p2))) (((σ 7 p2)))) (0) ++ ([] : va_W)) := by rw [← kap]; exact kYD_A hr hrA
      refine lv_pop hx hb dX3_feastOf_50 rfl ?_
      refine lv_aload_n hx hb dX3_feastOf_51 rfl (lv_at hl 0 rfl) ?_
      refine va_get (D := (dC, dI)) (ci := 6) (v := .ref (r_5 0 3)) (C := RX3) (T := TX3) (N := 6) hx hb hts (fun w h => List.mem_cons_of_mem _ (gF_2_in h)) hown hM.1 hP 0 rfl rfl 2 (by decide) (hts _ (List.mem_cons_of_mem _ mw1009)) (fun _ h9 => h9) rfl dX3_feastOf_52 ?_
      refine lv_iload_n hx hb dX3_feastOf_55 rfl (lv_at hl 1 rfl) ?_
      refine kz_aald (v := r_5 2 p1) hx hb hM.1 hP 3 rfl (by omega) (by decide) rfl dX3_feastOf_56 ?_
      refine kc0 (fun _ q => q) (va_runS (As := [.ref (r_5 2 p1)]) (rest := []) ⟨hx, hb, hml, hown, hts⟩ (c_X3_isEach l dC dI dA k _ _ hP (9 + p1) (r_5 2 p1) _ ((putFs σ p1 (((σ 6 p2))) (((σ 7 p2)))) 3 p1) ((putFs σ p1 (((σ 6 p2))) (((σ 7 p2)))) 4 p1) (kY_F _ hp1) rfl rfl (by first | omega | (rw [putFs_3 (putFr_d hOK hp2)]; omega) | (rw [putFs_4 (putFr_d hOK hp2)]; omega) | (rw [putFs_k (by decide) (by decide)]; omega)) (by first | omega | (rw [putFs_3 (putFr_d hOK hp2)]; omega) | (rw [putFs_4 (putFr_d hOK hp2)]; omega) | (rw [putFs_k (by decide) (by decide)]; omega))) (va_cwS 1 hts (kg_S mw1183 mw1184 mw47 rfl mw1185) rfl rfl rfl hdS_X3_isEach ⟨Nat.le_of_ble_eq_true rfl, Nat.le_of_ble_eq_true rfl⟩) ⟨fun a U g mk q => ⟨q.1, q.2.1, kM_call q.2.2⟩, fun U hU hW => ⟨rfl, hU, kM_kept hM hS hAN hU hW⟩⟩ rfl rfl hl.1 rfl (lv_room (Nat.le_of_ble_eq_true rfl)) dX3_feastOf_57 ⟨Nat.le_of_ble_eq_true rfl, Nat.le_of_ble_eq_true rfl⟩) ?_
      refine kc0 (fun _ q => q) (va_runS (As := [.int (iZ (bZ (decide ((((putFs σ p1 (((σ 6 p2))) (((σ 7 p2)))) 3 p1)) ≠ 2 ∨ (((putFs σ p1 (((σ 6 p2))) (((σ 7 p2)))) 4 p1)) ≠ 29))))]) (rest := []) ⟨hx, hb, hml, hown, hts⟩ (c_X3_bit l _ (decide ((((putFs σ p1 (((σ 6 p2))) (((σ 7 p2)))) 3 p1)) ≠ 2 ∨ (((putFs σ p1 (((σ 6 p2))) (((σ 7 p2)))) 4 p1)) ≠ 29))) (va_cwS 1 hts (kg_S mw1116 mw1117 mw47 rfl mw1118) rfl rfl rfl hdS_X3_bit ⟨Nat.le_of_ble_eq_true rfl, Nat.le_of_ble_eq_true rfl⟩) ⟨fun a U g mk q => q, fun U hU hW => ⟨rfl, hU⟩⟩ rfl rfl hl.1 rfl (lv_room (Nat.le_of_ble_eq_true rfl)) dX3_feastOf_60 ⟨Nat.le_of_ble_eq_true rfl, Nat.le_of_ble_eq_true rfl⟩) ?_
      refine W.widen (k := 1) (n := 2) (Nat.le_of_ble_eq_true rfl) (Nat.le_of_ble_eq_true rfl) ?_
      exact W.iret (v := iZ (bZ ((decide ((((putFs σ p1 (((σ 6 p2))) (((σ 7 p2)))) 3 p1)) ≠ 2 ∨ (((putFs σ p1 (((σ 6 p2))) (((σ 7 p2)))) 4 p1)) ≠ 29))))) hx hb hr9 (fun t ht hW => ⟨⟨congrArg (fun z : Int => Outcome.returned (some (Value.int (iZ z)))) (show (bZ ((decide ((((putFs σ p1 (((σ 6 p2))) (((σ 7 p2)))) 3 p1)) ≠ 2 ∨ (((putFs σ p1 (((σ 6 p2))) (((σ 7 p2)))) 4 p1)) ≠ 29)))) = (if ex2 (!inb ((p1 : Nat) : Int) 0 3 || !inb ((p2 : Nat) : Int) 0 3) (false) = 0 then (bZ (decide (σ 6 p2 ≠ 2 ∨ σ 7 p2 ≤ 28))) else 0) from by rw [if_pos hZ]; rw [putFs_3 (putFr_d hOK hp2), putFs_4 (putFr_d hOK hp2), each_in (putFr_d hOK hp2)]), gY_cast ⟨r_5, hr, hrA, by rw [ht]; exact va_Pl hP⟩ (show (putFs σ p1 (((σ 6 p2))) (((σ 7 p2)))) = (if ex2 (!inb ((p1 : Nat) : Int) 0 3 || !inb ((p2 : Nat) : Int) 0 3) (false) = 0 then (putFs σ p1 (σ 6 p2) (σ 7 p2)) else σ) from by rw [if_pos hZ]; done) (show (0) = ex2 (!inb ((p1 : Nat) : Int) 0 3 || !inb ((p2 : Nat) : Int) 0 3) (false) from hZ.symm)⟩, hS.F ht⟩) hS.2.2 dX3_feastOf_63
    · refine lv_iconst (v := iZ 1) hx hb dX3_feastOf_15 rfl ?_
      refine lv_goto (tgt := 20) hx hb dX3_feastOf_16 (by decide) ?_
      refine lv_iconst (v := iZ 0) hx hb dX3_feastOf_20 rfl ?_
      refine kc2 (va_runV (As := [.int (iZ (bZ true)), .int (iZ (bZ false))]) (rest := []) ⟨hx, hb, hml, hown, hts⟩ (c_X3_fails l dC dI dA k m0 (r0) (σ) (th) _ (va_Pl hP) hr hOK true false ) (cwV 2 hts (kg_V mw1037 mw1038 mw27 mw47 rfl mw1039) rfl rfl rfl hdV_X3_fails ⟨Nat.le_of_ble_eq_true rfl, Nat.le_of_ble_eq_true rfl⟩) ⟨fun a U g mk q => ⟨q.1, q.2.1, kM_call q.2.2⟩, va_recv hM.1 hP (ci := 6) (q0 := 0) rfl rfl, fun U hU hW => ⟨rfl, hU, kM_kept hM hS hAN hU hW⟩⟩ rfl rfl hl.1 rfl (lv_room (Nat.le_of_ble_eq_true rfl)) dX3_feastOf_21 ⟨Nat.le_of_ble_eq_true rfl, Nat.le_of_ble_eq_true rfl⟩) hS (fun a _ h => kAy_tr hrA hS.1 a h) (fun a h => kAy_tr hrA hS.1 a h) (fun H locs hP9 hz9 hk9 hS => ?_)
      have hP : va_P (dC, dI) vwCl (kY dA m0 r0 σ (ex2 true false) ++ ([] : va_W)) _ := hP9
      have hD : va_D (kAy m0 r0 s.heap.size) (kY dA m0 r0 σ (ex2 true false) ++ ([] : va_W)) := by rw [← kap]; exact kYD_A hr hrA
      refine kz_ifb_eq (tgt := 29) hx hb  dX3_feastOf_24 (by decide) (fun c_6 => absurd (kf_f c_6).1 (by decide)) (fun c_6 => ?_)
      have hX : ex2 (!inb z1 0 3 || !inb z2 0 3) (false) = ex2 true false := by first | rfl | simp only [c_1, c_3, Bool.true_or, Bool.or_true, Bool.false_or, Bool.or_false, Bool.not_true, Bool.not_false]
      have hN : ¬ ex2 (!inb z1 0 3 || !inb z2 0 3) (false) = 0 := kf_ne hX c_6
      refine lv_iconst (v := iZ 0) hx hb dX3_feastOf_27 rfl ?_
      refine W.widen (k := 1) (n := 2) (Nat.le_of_ble_eq_true rfl) (Nat.le_of_ble_eq_true rfl) ?_
      exact W.iret (v := iZ 0) hx hb hr9 (fun t ht hW => ⟨⟨congrArg (fun z : Int => Outcome.returned (some (Value.int (iZ z)))) (show 0 = (if ex2 (!inb z1 0 3 || !inb z2 0 3) (false) = 0 then (bZ (decide (σ 6 (z2.toNat) ≠ 2 ∨ σ 7 (z2.toNat) ≤ 28))) else 0) from by rw [if_neg hN]), gY_cast ⟨r0, hr, hrA, by rw [ht]; exact va_Pl hP⟩ (show (σ) = (if ex2 (!inb z1 0 3 || !inb z2 0 3) (false) = 0 then (putFs σ (z1.toNat) (σ 6 (z2.toNat)) (σ 7 (z2.toNat))) else σ) from by rw [if_neg hN]) (show (ex2 true false) = ex2 (!inb z1 0 3 || !inb z2 0 3) (false) from hX.symm)⟩, hS.F ht⟩) hS.2.2 dX3_feastOf_28

abbrev ww_X3_dayAt : List Cond := .code yX3_dayAt cX3_dayAt 4 (some .int) :: gT
set_option maxHeartbeats 4000000 in
set_option maxRecDepth 100000 in
theorem c_X3_dayAt (l : Launch) (dC : Nat → ClassId) (dI : Nat → Nat → Nat) (dA : Nat → ClassId) (k : Nat → Nat) (m0 : Nat) (r0 : Nat → Nat → Nat) (σ : Nat → Nat → Int) (th : Int) (H0 : Heap) (hP : va_P (dC, dI) vwCl (kY dA m0 r0 σ th) H0) (hr : kRI m0 r0 k) (hOK : kOK σ) (z1 : Int) (z2 : Int) (nn : Int) (rz1 : -2147483648 ≤ z1 ∧ z1 < 2147483648) (rz2 : -2147483648 ≤ z2 ∧ z2 < 2147483648) (rnn : -2147483648 ≤ nn ∧ nn < 2147483648) : Met l yX3_dayAt ww_X3_dayAt ({ frames := 6, cells := 1, slots := 3, locals := 133 }) (va_Pc [.ref m0, .int (iZ z1), .int (iZ z2), .int (iZ nn)] (fun U => U.heap = H0 ∧ kM dC dI dA k U)) (kQ2 (some (.int (iZ (if ex2 (!inb z1 0 3 || !inb z2 0 3) (!inb nn 1 31) = 0 then (if nn ≤ mlen (leap (σ 0 (z2.toNat))) (σ 1 (z2.toNat)) then 1 + (dnum (σ 0 (z2.toNat)) (σ 1 (z2.toNat)) nn + 3) % 7 else -9) else 0)))) (gY dC dI dA k m0 r0 H0.size (if ex2 (!inb z1 0 3 || !inb z2 0 3) (!inb nn 1 31) = 0 then (if nn ≤ mlen (leap (σ 0 (z2.toNat))) (σ 1 (z2.toNat)) then setD σ (z1.toNat) (σ 0 (z2.toNat)) (σ 1 (z2.toNat)) nn else σ) else σ) (ex2 (!inb z1 0 3 || !inb z2 0 3) (!inb nn 1 31))) (kAy m0 r0 H0.size)) 1 3 (kAy m0 r0 H0.size) := by
  refine Met.ofW (cc := cX3_dayAt) (maxL := 4) (ret := (some .int)) (by decide) rfl ?_
  intro p e s m args below meth c s₁ B hml hv
  obtain ⟨rfl, hH, hM⟩ := hv
  subst hH
  have hr0 := hr
  have hAN : ∀ a, kAy m0 r0 s.heap.size a → k 0 ≤ a := fun a h => kAy_N hr0 hM.2.1.1 a h
  have hrA : ∀ i : Nat, i < 17 → kAy m0 r0 s.heap.size (kR m0 r0 i) := fun i hi => Or.inl ⟨i, hi, rfl⟩
  have hD : va_D (kAy m0 r0 s.heap.size) (kY dA m0 r0 σ (th) ++ ([] : va_W)) := by rw [← kap]; exact kYD_A hr hrA
  have hP : va_P (dC, dI) vwCl (kY dA m0 r0 σ (th) ++ ([] : va_W)) s.heap := hP
  have hS : va_S (kAy m0 r0 s.heap.size) s.heap s.heap [] := va_S.rf
  have hx := B.exec
  have hb := B.bytes
  have hr9 := B.returns
  have hts := atoms_spec (ws := ww_X3_dayAt) B.pre
  have hown : s.vm.findClass RX3 = some m.cls := findClass_of_methodNamed B.named
  have hlocks := B.notSynchronized
  have hl := lv_entry ([.ref m0, .int (iZ z1), .int (iZ z2), .int (iZ nn)]) (n := 4) (Nat.le_of_ble_eq_true rfl)
  rw [lg_entry_eq]
  generalize (lg_sl ([.ref m0, .int (iZ z1), .int (iZ z2), .int (iZ nn)]) ++ List.replicate (4 - (lg_sl ([.ref m0, .int (iZ z1), .int (iZ z2), .int (iZ nn)])).length) Slot.unset).toArray = ls at hl ⊢
  have hl : lv_has ls 4 [(0, .ref m0), (1, .int (iZ z1)), (2, .int (iZ z2)), (3, .int (iZ nn))] := hl
  refine lv_aload_n hx hb dX3_dayAt_0 rfl (lv_at hl 0 rfl) ?_
  refine lv_iload_n hx hb dX3_dayAt_1 rfl (lv_at hl 1 rfl) ?_
  refine kc0 (fun _ q => q) (va_runS (As := [.int (iZ z1)]) (rest := [.ref m0]) ⟨hx, hb, hml, hown, hts⟩ (c_X3_isNo l _ (z1) (by first | omega | (rw [setD_5]; omega) | (rw [setD_6]; omega) | (rw [setD_7]; omega) | (rw [setD_k (by decide)]; omega) | (rw [setD_k (by decide), setD_k (by decide)]; omega))) (va_cwS 1 hts (kg_S mw1021 mw1022 mw47 rfl mw1023) rfl rfl rfl hdS_X3_isNo ⟨Nat.le_of_ble_eq_true rfl, Nat.le_of_ble_eq_true rfl⟩) ⟨fun a U g mk q => q, fun U hU hW => ⟨rfl, hU⟩⟩ rfl rfl hl.1 rfl (lv_room (Nat.le_of_ble_eq_true rfl)) dX3_dayAt_2 ⟨Nat.le_of_ble_eq_true rfl, Nat.le_of_ble_eq_true rfl⟩) ?_
  refine kz_ifb_ne (tgt := 15) hx hb  dX3_dayAt_5 (by decide) (fun c_1 => ?_) (fun c_1 => ?_)
  · refine lv_iconst (v := iZ 1) hx hb dX3_dayAt_15 rfl ?_
    refine lv_goto (tgt := 20) hx hb dX3_dayAt_16 (by decide) ?_
    refine lv_iload_n hx hb dX3_dayAt_20 rfl (lv_at hl 3 rfl) ?_
    refine kz_i2l hx hb (by first | omega | (rw [setD_5, setD_6, setD_7]; have := dnum_rng (y := σ 0 p2) (m := σ 1 p2) (d := nn) (by omega) (by omega) (by omega); omega) | (rw [setD_k (by decide), setD_k (by decide)]; omega)) dX3_dayAt_21 ?_
    refine lv_lconst (v := lZ 1) hx hb dX3_dayAt_22 rfl ?_
    refine lv_ldc2 (v := lZ 31) hx hb hown (hts _ (List.mem_cons_of_mem _ mw1179)) dX3_dayAt_23 ?_
    refine kc0 (fun _ q => q) (va_runS (As := [.long (lZ (nn)), .long (lZ (1)), .long (lZ (31))]) (rest := [.int (iZ 1), .ref m0]) ⟨hx, hb, hml, hown, hts⟩ (c_X3_isIn l _ (nn) (1) (31) (by first | omega | (rw [setD_5]; omega) | (rw [setD_6]; omega) | (rw [setD_7]; omega) | (rw [setD_k (by decide)]; omega) | (rw [setD_k (by decide), setD_k (by decide)]; omega)) (by first | omega | (rw [setD_5]; omega) | (rw [setD_6]; omega) | (rw [setD_7]; omega) | (rw [setD_k (by decide)]; omega) | (rw [setD_k (by decide), setD_k (by decide)]; omega)) (by first | omega | (rw [setD_5]; omega) | (rw [setD_6]; omega) | (rw [setD_7]; omega) | (rw [setD_k (by decide)]; omega) | (rw [setD_k (by decide), setD_k (by decide)]; omega))) (va_cwS 3 hts (kg_S mw1025 mw1026 mw47 rfl mw1027) rfl rfl rfl hdS_X3_isIn ⟨Nat.le_of_ble_eq_true rfl, Nat.le_of_ble_eq_true rfl⟩) ⟨fun a U g mk q => q, fun U hU hW => ⟨rfl, hU⟩⟩ rfl rfl hl.1 rfl (lv_room (Nat.le_of_ble_eq_true rfl)) dX3_dayAt_26 ⟨Nat.le_of_ble_eq_true rfl, Nat.le_of_ble_eq_true rfl⟩) ?_
    refine kz_ifb_ne (tgt := 36) hx hb  dX3_dayAt_29 (by decide) (fun c_2 => ?_) (fun c_2 => ?_)
    · refine lv_iconst (v := iZ 0) hx hb dX3_dayAt_36 rfl ?_
      refine kc2 (va_runV (As := [.int (iZ (bZ true)), .int (iZ (bZ false))]) (rest := []) ⟨hx, hb, hml, hown, hts⟩ (c_X3_fails l dC dI dA k m0 (r0) (σ) (th) _ (va_Pl hP) hr hOK true false ) (cwV 2 hts (kg_V mw1037 mw1038 mw27 mw47 rfl mw1039) rfl rfl rfl hdV_X3_fails ⟨Nat.le_of_ble_eq_true rfl, Nat.le_of_ble_eq_true rfl⟩) ⟨fun a U g mk q => ⟨q.1, q.2.1, kM_call q.2.2⟩, va_recv hM.1 hP (ci := 6) (q0 := 0) rfl rfl, fun U hU hW => ⟨rfl, hU, kM_kept hM hS hAN hU hW⟩⟩ rfl rfl hl.1 rfl (lv_room (Nat.le_of_ble_eq_true rfl)) dX3_dayAt_37 ⟨Nat.le_of_ble_eq_true rfl, Nat.le_of_ble_eq_true rfl⟩) hS (fun a _ h => kAy_tr hrA hS.1 a h) (fun a h => kAy_tr hrA hS.1 a h) (fun H locs hP9 hz9 hk9 hS => ?_)
      have hP : va_P (dC, dI) vwCl (kY dA m0 r0 σ (ex2 true false) ++ ([] : va_W)) _ := hP9
      have hD : va_D (kAy m0 r0 s.heap.size) (kY dA m0 r0 σ (ex2 true false) ++ ([] : va_W)) := by rw [← kap]; exact kYD_A hr hrA
      refine kz_ifb_eq (tgt := 45) hx hb  dX3_dayAt_40 (by decide) (fun c_3 => absurd (kf_f c_3).1 (by decide)) (fun c_3 => ?_)
      have hX : ex2 (!inb z1 0 3 || !inb z2 0 3) (!inb nn 1 31) = ex2 true false := by first | rfl | simp only [c_1, c_2, Bool.true_or, Bool.or_true, Bool.false_or, Bool.or_false, Bool.not_true, Bool.not_false]
      have hN : ¬ ex2 (!inb z1 0 3 || !inb z2 0 3) (!inb nn 1 31) = 0 := kf_ne hX c_3
      refine lv_iconst (v := iZ 0) hx hb dX3_dayAt_43 rfl ?_
      refine W.widen (k := 1) (n := 3) (Nat.le_of_ble_eq_true rfl) (Nat.le_of_ble_eq_true rfl) ?_
      exact W.iret (v := iZ 0) hx hb hr9 (fun t ht hW => ⟨⟨congrArg (fun z : Int => Outcome.returned (some (Value.int (iZ z)))) (show 0 = (if ex2 (!inb z1 0 3 || !inb z2 0 3) (!inb nn 1 31) = 0 then (if nn ≤ mlen (leap (σ 0 (z2.toNat))) (σ 1 (z2.toNat)) then 1 + (dnum (σ 0 (z2.toNat)) (σ 1 (z2.toNat)) nn + 3) % 7 else -9) else 0) from by rw [if_neg hN]), gY_cast ⟨r0, hr, hrA, by rw [ht]; exact va_Pl hP⟩ (show (σ) = (if ex2 (!inb z1 0 3 || !inb z2 0 3) (!inb nn 1 31) = 0 then (if nn ≤ mlen (leap (σ 0 (z2.toNat))) (σ 1 (z2.toNat)) then setD σ (z1.toNat) (σ 0 (z2.toNat)) (σ 1 (z2.toNat)) nn else σ) else σ) from by rw [if_neg hN]) (show (ex2 true false) = ex2 (!inb z1 0 3 || !inb z2 0 3) (!inb nn 1 31) from hX.symm)⟩, hS.F ht⟩) hS.2.2 dX3_dayAt_44
    · refine lv_iconst (v := iZ 1) hx hb dX3_dayAt_32 rfl ?_
      refine lv_goto (tgt := 37) hx hb dX3_dayAt_33 (by decide) ?_
      refine kc2 (va_runV (As := [.int (iZ (bZ true)), .int (iZ (bZ true))]) (rest := []) ⟨hx, hb, hml, hown, hts⟩ (c_X3_fails l dC dI dA k m0 (r0) (σ) (th) _ (va_Pl hP) hr hOK true true ) (cwV 2 hts (kg_V mw1037 mw1038 mw27 mw47 rfl mw1039) rfl rfl rfl hdV_X3_fails ⟨Nat.le_of_ble_eq_true rfl, Nat.le_of_ble_eq_true rfl⟩) ⟨fun a U g mk q => ⟨q.1, q.2.1, kM_call q.2.2⟩, va_recv hM.1 hP (ci := 6) (q0 := 0) rfl rfl, fun U hU hW => ⟨rfl, hU, kM_kept hM hS hAN hU hW⟩⟩ rfl rfl hl.1 rfl (lv_room (Nat.le_of_ble_eq_true rfl)) dX3_dayAt_37 ⟨Nat.le_of_ble_eq_true rfl, Nat.le_of_ble_eq_true rfl⟩) hS (fun a _ h => kAy_tr hrA hS.1 a h) (fun a h => kAy_tr hrA hS.1 a h) (fun H locs hP9 hz9 hk9 hS => ?_)
      have hP : va_P (dC, dI) vwCl (kY dA m0 r0 σ (ex2 true true) ++ ([] : va_W)) _ := hP9
      have hD : va_D (kAy m0 r0 s.heap.size) (kY dA m0 r0 σ (ex2 true true) ++ ([] : va_W)) := by rw [← kap]; exact kYD_A hr hrA
      refine kz_ifb_eq (tgt := 45) hx hb  dX3_dayAt_40 (by decide) (fun c_4 => absurd (kf_f c_4).1 (by decide)) (fun c_4 => ?_)
      have hX : ex2 (!inb z1 0 3 || !inb z2 0 3) (!inb nn 1 31) = ex2 true true := by first | rfl | simp only [c_1, c_2, Bool.true_or, Bool.or_true, Bool.false_or, Bool.or_false, Bool.not_true, Bool.not_false]
      have hN : ¬ ex2 (!inb z1 0 3 || !inb z2 0 3) (!inb nn 1 31) = 0 := kf_ne hX c_4
      refine lv_iconst (v := iZ 0) hx hb dX3_dayAt_43 rfl ?_
      refine W.widen (k := 1) (n := 3) (Nat.le_of_ble_eq_true rfl) (Nat.le_of_ble_eq_true rfl) ?_
      exact W.iret (v := iZ 0) hx hb hr9 (fun t ht hW => ⟨⟨congrArg (fun z : Int => Outcome.returned (some (Value.int (iZ z)))) (show 0 = (if ex2 (!inb z1 0 3 || !inb z2 0 3) (!inb nn 1 31) = 0 then (if nn ≤ mlen (leap (σ 0 (z2.toNat))) (σ 1 (z2.toNat)) then 1 + (dnum (σ 0 (z2.toNat)) (σ 1 (z2.toNat)) nn + 3) % 7 else -9) else 0) from by rw [if_neg hN]), gY_cast ⟨r0, hr, hrA, by rw [ht]; exact va_Pl hP⟩ (show (σ) = (if ex2 (!inb z1 0 3 || !inb z2 0 3) (!inb nn 1 31) = 0 then (if nn ≤ mlen (leap (σ 0 (z2.toNat))) (σ 1 (z2.toNat)) then setD σ (z1.toNat) (σ 0 (z2.toNat)) (σ 1 (z2.toNat)) nn else σ) else σ) from by rw [if_neg hN]) (show (ex2 true true) = ex2 (!inb z1 0 3 || !inb z2 0 3) (!inb nn 1 31) from hX.symm)⟩, hS.F ht⟩) hS.2.2 dX3_dayAt_44
  · refine lv_iload_n hx hb dX3_dayAt_8 rfl (lv_at hl 2 rfl) ?_
    refine kc0 (fun _ q => q) (va_runS (As := [.int (iZ z2)]) (rest := [.ref m0]) ⟨hx, hb, hml, hown, hts⟩ (c_X3_isNo l _ (z2) (by first | omega | (rw [setD_5]; omega) | (rw [setD_6]; omega) | (rw [setD_7]; omega) | (rw [setD_k (by decide)]; omega) | (rw [setD_k (by decide), setD_k (by decide)]; omega))) (va_cwS 1 hts (kg_S mw1021 mw1022 mw47 rfl mw1023) rfl rfl rfl hdS_X3_isNo ⟨Nat.le_of_ble_eq_true rfl, Nat.le_of_ble_eq_true rfl⟩) ⟨fun a U g mk q => q, fun U hU hW => ⟨rfl, hU⟩⟩ rfl rfl hl.1 rfl (lv_room (Nat.le_of_ble_eq_true rfl)) dX3_dayAt_9 ⟨Nat.le_of_ble_eq_true rfl, Nat.le_of_ble_eq_true rfl⟩) ?_
    refine kz_ifb_eq (tgt := 19) hx hb  dX3_dayAt_12 (by decide) (fun c_5 => ?_) (fun c_5 => ?_)
    · refine lv_iconst (v := iZ 0) hx hb dX3_dayAt_19 rfl ?_
      refine lv_iload_n hx hb dX3_dayAt_20 rfl (lv_at hl 3 rfl) ?_
      refine kz_i2l hx hb (by first | omega | (rw [setD_5, setD_6, setD_7]; have := dnum_rng (y := σ 0 p2) (m := σ 1 p2) (d := nn) (by omega) (by omega) (by omega); omega) | (rw [setD_k (by decide), setD_k (by decide)]; omega)) dX3_dayAt_21 ?_
      refine lv_lconst (v := lZ 1) hx hb dX3_dayAt_22 rfl ?_
      refine lv_ldc2 (v := lZ 31) hx hb hown (hts _ (List.mem_cons_of_mem _ mw1179)) dX3_dayAt_23 ?_
      refine kc0 (fun _ q => q) (va_runS (As := [.long (lZ (nn)), .long (lZ (1)), .long (lZ (31))]) (rest := [.int (iZ 0), .ref m0]) ⟨hx, hb, hml, hown, hts⟩ (c_X3_isIn l _ (nn) (1) (31) (by first | omega | (rw [setD_5]; omega) | (rw [setD_6]; omega) | (rw [setD_7]; omega) | (rw [setD_k (by decide)]; omega) | (rw [setD_k (by decide), setD_k (by decide)]; omega)) (by first | omega | (rw [setD_5]; omega) | (rw [setD_6]; omega) | (rw [setD_7]; omega) | (rw [setD_k (by decide)]; omega) | (rw [setD_k (by decide), setD_k (by decide)]; omega)) (by first | omega | (rw [setD_5]; omega) | (rw [setD_6]; omega) | (rw [setD_7]; omega) | (rw [setD_k (by decide)]; omega) | (rw [setD_k (by decide), setD_k (by decide)]; omega))) (va_cwS 3 hts (kg_S mw1025 mw1026 mw47 rfl mw1027) rfl rfl rfl hdS_X3_isIn ⟨Nat.le_of_ble_eq_true rfl, Nat.le_of_ble_eq_true rfl⟩) ⟨fun a U g mk q => q, fun U hU hW => ⟨rfl, hU⟩⟩ rfl rfl hl.1 rfl (lv_room (Nat.le_of_ble_eq_true rfl)) dX3_dayAt_26 ⟨Nat.le_of_ble_eq_true rfl, Nat.le_of_ble_eq_true rfl⟩) ?_
      refine kz_ifb_ne (tgt := 36) hx hb  dX3_dayAt_29 (by decide) (fun c_6 => ?_) (fun c_6 => ?_)
      · refine lv_iconst (v := iZ 0) hx hb dX3_dayAt_36 rfl ?_
        refine kc2 (va_runV (As := [.int (iZ (bZ false)), .int (iZ (bZ false))]) (rest := []) ⟨hx, hb, hml, hown, hts⟩ (c_X3_fails l dC dI dA k m0 (r0) (σ) (th) _ (va_Pl hP) hr hOK false false ) (cwV 2 hts (kg_V mw1037 mw1038 mw27 mw47 rfl mw1039) rfl rfl rfl hdV_X3_fails ⟨Nat.le_of_ble_eq_true rfl, Nat.le_of_ble_eq_true rfl⟩) ⟨fun a U g mk q => ⟨q.1, q.2.1, kM_call q.2.2⟩, va_recv hM.1 hP (ci := 6) (q0 := 0) rfl rfl, fun U hU hW => ⟨rfl, hU, kM_kept hM hS hAN hU hW⟩⟩ rfl rfl hl.1 rfl (lv_room (Nat.le_of_ble_eq_true rfl)) dX3_dayAt_37 ⟨Nat.le_of_ble_eq_true rfl, Nat.le_of_ble_eq_true rfl⟩) hS (fun a _ h => kAy_tr hrA hS.1 a h) (fun a h => kAy_tr hrA hS.1 a h) (fun H locs hP9 hz9 hk9 hS => ?_)
        have hP : va_P (dC, dI) vwCl (kY dA m0 r0 σ (ex2 false false) ++ ([] : va_W)) _ := hP9
        have hD : va_D (kAy m0 r0 s.heap.size) (kY dA m0 r0 σ (ex2 false false) ++ ([] : va_W)) := by rw [← kap]; exact kYD_A hr hrA
        refine kz_ifb_eq (tgt := 45) hx hb  dX3_dayAt_40 (by decide) (fun c_7 => ?_) (fun c_7 => absurd (show ex2 false false = 0 from rfl) (kf_t c_7))
        have hX : ex2 (!inb z1 0 3 || !inb z2 0 3) (!inb nn 1 31) = ex2 false false := by first | rfl | simp only [c_1, c_5, c_6, Bool.true_or, Bool.or_true, Bool.false_or, Bool.or_false, Bool.not_true, Bool.not_false]
        have hZ : ex2 (!inb z1 0 3 || !inb z2 0 3) (!inb nn 1 31) = 0 := kf_eq hX c_7
        obtain ⟨hA9, hB9⟩ := ex2_z hZ
        simp only [Bool.or_eq_false_iff, Bool.not_eq_false', Bool.not_eq_true', inb, decide_eq_true_eq, decide_eq_false_iff_not, noThing_niff] at hA9
        simp only [Bool.or_eq_false_iff, Bool.not_eq_false', Bool.not_eq_true', inb, decide_eq_true_eq, decide_eq_false_iff_not, noThing_niff] at hB9
        obtain ⟨p1, hp1, rfl⟩ : ∃ p1 : Nat, p1 < 4 ∧ z1 = (p1 : Int) := ⟨z1.toNat, by omega, by omega⟩
        have o_p1 := kOKr hOK hp1
        have l_p1 := mlen_rng (leap (σ 0 p1)) (σ 1 p1)
        have n_p1 := dnum_rng (y := σ 5 p1) (m := σ 6 p1) (d := σ 7 p1) (by omega) (by omega) (by omega)
        obtain ⟨p2, hp2, rfl⟩ : ∃ p2 : Nat, p2 < 4 ∧ z2 = (p2 : Int) := ⟨z2.toNat, by omega, by omega⟩
        have o_p2 := kOKr hOK hp2
        have l_p2 := mlen_rng (leap (σ 0 p2)) (σ 1 p2)
        have n_p2 := dnum_rng (y := σ 5 p2) (m := σ 6 p2) (d := σ 7 p2) (by omega) (by omega) (by omega)
        have hP := kY0 hP (kf_e c_7)
        have hD := kD0 hD (kf_e c_7)
        refine lv_iload_n hx hb dX3_dayAt_45 rfl (lv_at hl 3 rfl) ?_
        refine lv_aload_n hx hb dX3_dayAt_46 rfl (lv_at hl 0 rfl) ?_
        refine lv_iload_n hx hb dX3_dayAt_47 rfl (lv_at hl 2 rfl) ?_
        refine kc0 (fun _ q => q) (va_runV (As := [.int (iZ ((p2 : Nat) : Int))]) (rest := [.int (iZ nn)]) ⟨hx, hb, hml, hown, hts⟩ (c_X3_lengthAt l dC dI dA k m0 (r0) (σ) (0) _ (va_Pl hP) hr hOK p2 hp2) (cwV 1 hts (kg_V mw1043 mw1044 mw29 mw47 rfl mw1045) rfl rfl rfl hdV_X3_lengthAt ⟨Nat.le_of_ble_eq_true rfl, Nat.le_of_ble_eq_true rfl⟩) ⟨fun a U g mk q => ⟨q.1, q.2.1, kM_call q.2.2⟩, va_recv hM.1 hP (ci := 6) (q0 := 0) rfl rfl, fun U hU hW => ⟨rfl, hU, kM_kept hM hS hAN hU hW⟩⟩ rfl rfl hl.1 rfl (lv_room (Nat.le_of_ble_eq_true rfl)) dX3_dayAt_48 ⟨Nat.le_of_ble_eq_true rfl, Nat.le_of_ble_eq_true rfl⟩) ?_
        refine kz_icmp_le (tgt := 57) hx hb (by first | omega | (rw [setD_5, setD_6, setD_7]; have := dnum_rng (y := σ 0 p2) (m := σ 1 p2) (d := nn) (by omega) (by omega) (by omega); omega) | (rw [setD_k (by decide), setD_k (by decide)]; omega)) (by first | omega | (rw [setD_5, setD_6, setD_7]; have := dnum_rng (y := σ 0 p2) (m := σ 1 p2) (d := nn) (by omega) (by omega) (by omega); omega) | (rw [setD_k (by decide), setD_k (by decide)]; omega)) dX3_dayAt_51 (by decide) (fun c_8 => ?_) (fun c_8 => ?_)
        · refine lv_aload_n hx hb dX3_dayAt_57 rfl (lv_at hl 0 rfl) ?_
          refine lv_iload_n hx hb dX3_dayAt_58 rfl (lv_at hl 1 rfl) ?_
          refine lv_aload_n hx hb dX3_dayAt_59 rfl (lv_at hl 0 rfl) ?_
          refine va_get (D := (dC, dI)) (ci := 6) (v := .ref (r0 0 1)) (C := RX3) (T := TX3) (N := 6) hx hb hts (fun w h => List.mem_cons_of_mem _ (gF_2_in h)) hown hM.1 hP 0 rfl rfl 0 (by decide) (hts _ (List.mem_cons_of_mem _ mw1007)) (fun _ h9 => h9) rfl dX3_dayAt_60 ?_
          refine lv_iload_n hx hb dX3_dayAt_63 rfl (lv_at hl 2 rfl) ?_
          refine kz_aald (v := r0 1 p2) hx hb hM.1 hP 1 rfl (by omega) (by decide) rfl dX3_dayAt_64 ?_
          refine lv_iconst (v := iZ 0) hx hb dX3_dayAt_65 rfl ?_
          refine kz_iald (v := σ 0 p2) hx hb hM.1 hP (5 + p2) 0 (kY_L _ hp2) rfl (by omega) (by decide) rfl dX3_dayAt_66 ?_
          refine lv_aload_n hx hb dX3_dayAt_67 rfl (lv_at hl 0 rfl) ?_
          refine va_get (D := (dC, dI)) (ci := 6) (v := .ref (r0 0 1)) (C := RX3) (T := TX3) (N := 6) hx hb hts (fun w h => List.mem_cons_of_mem _ (gF_2_in h)) hown hM.1 hP 0 rfl rfl 0 (by decide) (hts _ (List.mem_cons_of_mem _ mw1007)) (fun _ h9 => h9) rfl dX3_dayAt_68 ?_
          refine lv_iload_n hx hb dX3_dayAt_71 rfl (lv_at hl 2 rfl) ?_
          refine kz_aald (v := r0 1 p2) hx hb hM.1 hP 1 rfl (by omega) (by decide) rfl dX3_dayAt_72 ?_
          refine lv_iconst (v := iZ 1) hx hb dX3_dayAt_73 rfl ?_
          refine kz_iald (v := σ 1 p2) hx hb hM.1 hP (5 + p2) 0 (kY_L _ hp2) rfl (by omega) (by decide) rfl dX3_dayAt_74 ?_
          refine lv_iload_n hx hb dX3_dayAt_75 rfl (lv_at hl 3 rfl) ?_
          refine kc2 (va_runV (As := [.int (iZ ((p1 : Nat) : Int)), .int (iZ (σ 0 p2)), .int (iZ (σ 1 p2)), .int (iZ nn)]) (rest := []) ⟨hx, hb, hml, hown, hts⟩ (c_X3_putDay l dC dI dA k m0 (r0) (σ) (0) _ (va_Pl hP) hr hOK p1 ((σ 0 p2)) ((σ 1 p2)) (nn) hp1) (cwV 4 hts (kg_V mw1211 mw1212 mw33 mw47 rfl mw1213) rfl rfl rfl hdV_X3_putDay ⟨Nat.le_of_ble_eq_true rfl, Nat.le_of_ble_eq_true rfl⟩) ⟨fun a U g mk q => ⟨q.1, q.2.1, kM_call q.2.2⟩, va_recv hM.1 hP (ci := 6) (q0 := 0) rfl rfl, fun U hU hW => ⟨rfl, hU, kM_kept hM hS hAN hU hW⟩⟩ rfl rfl hl.1 rfl (lv_room (Nat.le_of_ble_eq_true rfl)) dX3_dayAt_76 ⟨Nat.le_of_ble_eq_true rfl, Nat.le_of_ble_eq_true rfl⟩) hS (fun a _ h => kAy_tr hrA hS.1 a h) (fun a h => kAy_tr hrA hS.1 a h) (fun H locs hG hz9 hk9 hS9 => ?_)
          obtain ⟨r_9, hr, hrA9, hP⟩ := hG
          have hrA := kAy_tr2 hrA hS.1 hrA9
          have hS := hS9
          have hP : va_P (dC, dI) vwCl (kY dA m0 r_9 (setD σ p1 (((σ 0 p2))) (((σ 1 p2))) ((nn))) (0) ++ ([] : va_W)) _ := hP
          have hD : va_D (kAy m0 r0 s.heap.size) (kY dA m0 r_9 (setD σ p1 (((σ 0 p2))) (((σ 1 p2))) ((nn))) (0) ++ ([] : va_W)) := by rw [← kap]; exact kYD_A hr hrA
          refine lv_aload_n hx hb dX3_dayAt_79 rfl (lv_at hl 0 rfl) ?_
          refine va_get (D := (dC, dI)) (ci := 6) (v := .ref (r_9 0 4)) (C := RX3) (T := TX3) (N := 6) hx hb hts (fun w h => List.mem_cons_of_mem _ (gF_2_in h)) hown hM.1 hP 0 rfl rfl 3 (by decide) (hts _ (List.mem_cons_of_mem _ mw1010)) (fun _ h9 => h9) rfl dX3_dayAt_80 ?_
          refine lv_iload_n hx hb dX3_dayAt_83 rfl (lv_at hl 1 rfl) ?_
          refine kz_aald (v := r_9 3 p1) hx hb hM.1 hP 4 rfl (by omega) (by decide) rfl dX3_dayAt_84 ?_
          refine kc0 (fun _ q => q) (va_runS (As := [.ref (r_9 3 p1)]) (rest := []) ⟨hx, hb, hml, hown, hts⟩ (c_X3_weekday l dC dI dA k _ _ hP (13 + p1) (r_9 3 p1) _ ((setD σ p1 (((σ 0 p2))) (((σ 1 p2))) ((nn))) 5 p1) ((setD σ p1 (((σ 0 p2))) (((σ 1 p2))) ((nn))) 6 p1) ((setD σ p1 (((σ 0 p2))) (((σ 1 p2))) ((nn))) 7 p1) (kY_D _ hp1) rfl rfl rfl (by first | omega | (rw [setD_5]; omega) | (rw [setD_6]; omega) | (rw [setD_7]; omega) | (rw [setD_k (by decide)]; omega) | (rw [setD_k (by decide), setD_k (by decide)]; omega)) (by first | omega | (rw [setD_5]; omega) | (rw [setD_6]; omega) | (rw [setD_7]; omega) | (rw [setD_k (by decide)]; omega) | (rw [setD_k (by decide), setD_k (by decide)]; omega)) (by first | omega | (rw [setD_5]; omega) | (rw [setD_6]; omega) | (rw [setD_7]; omega) | (rw [setD_k (by decide)]; omega) | (rw [setD_k (by decide), setD_k (by decide)]; omega))) (va_cwS 1 hts (kg_S mw1214 mw1215 mw47 rfl mw1216) rfl rfl rfl hdS_X3_weekday ⟨Nat.le_of_ble_eq_true rfl, Nat.le_of_ble_eq_true rfl⟩) ⟨fun a U g mk q => ⟨q.1, q.2.1, kM_call q.2.2⟩, fun U hU hW => ⟨rfl, hU, kM_kept hM hS hAN hU hW⟩⟩ rfl rfl hl.1 rfl (lv_room (Nat.le_of_ble_eq_true rfl)) dX3_dayAt_85 ⟨Nat.le_of_ble_eq_true rfl, Nat.le_of_ble_eq_true rfl⟩) ?_
          refine W.widen (k := 1) (n := 3) (Nat.le_of_ble_eq_true rfl) (Nat.le_of_ble_eq_true rfl) ?_
          exact W.iret (v := iZ (1 + (dnum (((setD σ p1 (((σ 0 p2))) (((σ 1 p2))) ((nn))) 5 p1)) (((setD σ p1 (((σ 0 p2))) (((σ 1 p2))) ((nn))) 6 p1)) (((setD σ p1 (((σ 0 p2))) (((σ 1 p2))) ((nn))) 7 p1)) + 3) % 7)) hx hb hr9 (fun t ht hW => ⟨⟨congrArg (fun z : Int => Outcome.returned (some (Value.int (iZ z)))) (show (1 + (dnum (((setD σ p1 (((σ 0 p2))) (((σ 1 p2))) ((nn))) 5 p1)) (((setD σ p1 (((σ 0 p2))) (((σ 1 p2))) ((nn))) 6 p1)) (((setD σ p1 (((σ 0 p2))) (((σ 1 p2))) ((nn))) 7 p1)) + 3) % 7) = (if ex2 (!inb ((p1 : Nat) : Int) 0 3 || !inb ((p2 : Nat) : Int) 0 3) (!inb nn 1 31) = 0 then (if nn ≤ mlen (leap (σ 0 p2)) (σ 1 p2) then 1 + (dnum (σ 0 p2) (σ 1 p2) nn + 3) % 7 else -9) else 0) from by rw [if_pos hZ]; rw [if_pos (by omega), setD_5, setD_6, setD_7]), gY_cast ⟨r_9, hr, hrA, by rw [ht]; exact va_Pl hP⟩ (show (setD σ p1 (((σ 0 p2))) (((σ 1 p2))) ((nn))) = (if ex2 (!inb ((p1 : Nat) : Int) 0 3 || !inb ((p2 : Nat) : Int) 0 3) (!inb nn 1 31) = 0 then (if nn ≤ mlen (leap (σ 0 p2)) (σ 1 p2) then setD σ p1 (σ 0 p2) (σ 1 p2) nn else σ) else σ) from by rw [if_pos hZ]; rw [if_pos (by omega)]) (show (0) = ex2 (!inb ((p1 : Nat) : Int) 0 3 || !inb ((p2 : Nat) : Int) 0 3) (!inb nn 1 31) from hZ.symm)⟩, hS.F ht⟩) hS.2.2 dX3_dayAt_88
        · refine lv_bipush (v := iZ (-9)) hx hb dX3_dayAt_54 rfl ?_
          refine W.widen (k := 1) (n := 3) (Nat.le_of_ble_eq_true rfl) (Nat.le_of_ble_eq_true rfl) ?_
          exact W.iret (v := iZ ((-9))) hx hb hr9 (fun t ht hW => ⟨⟨congrArg (fun z : Int => Outcome.returned (some (Value.int (iZ z)))) (show ((-9)) = (if ex2 (!inb ((p1 : Nat) : Int) 0 3 || !inb ((p2 : Nat) : Int) 0 3) (!inb nn 1 31) = 0 then (if nn ≤ mlen (leap (σ 0 p2)) (σ 1 p2) then 1 + (dnum (σ 0 p2) (σ 1 p2) nn + 3) % 7 else -9) else 0) from by rw [if_pos hZ]; rw [if_neg (by omega)]), gY_cast ⟨r0, hr, hrA, by rw [ht]; exact va_Pl hP⟩ (show (σ) = (if ex2 (!inb ((p1 : Nat) : Int) 0 3 || !inb ((p2 : Nat) : Int) 0 3) (!inb nn 1 31) = 0 then (if nn ≤ mlen (leap (σ 0 p2)) (σ 1 p2) then setD σ p1 (σ 0 p2) (σ 1 p2) nn else σ) else σ) from by rw [if_pos hZ]; rw [if_neg (by omega)]) (show (0) = ex2 (!inb ((p1 : Nat) : Int) 0 3 || !inb ((p2 : Nat) : Int) 0 3) (!inb nn 1 31) from hZ.symm)⟩, hS.F ht⟩) hS.2.2 dX3_dayAt_56
      · refine lv_iconst (v := iZ 1) hx hb dX3_dayAt_32 rfl ?_
        refine lv_goto (tgt := 37) hx hb dX3_dayAt_33 (by decide) ?_
        refine kc2 (va_runV (As := [.int (iZ (bZ false)), .int (iZ (bZ true))]) (rest := []) ⟨hx, hb, hml, hown, hts⟩ (c_X3_fails l dC dI dA k m0 (r0) (σ) (th) _ (va_Pl hP) hr hOK false true ) (cwV 2 hts (kg_V mw1037 mw1038 mw27 mw47 rfl mw1039) rfl rfl rfl hdV_X3_fails ⟨Nat.le_of_ble_eq_true rfl, Nat.le_of_ble_eq_true rfl⟩) ⟨fun a U g mk q => ⟨q.1, q.2.1, kM_call q.2.2⟩, va_recv hM.1 hP (ci := 6) (q0 := 0) rfl rfl, fun U hU hW => ⟨rfl, hU, kM_kept hM hS hAN hU hW⟩⟩ rfl rfl hl.1 rfl (lv_room (Nat.le_of_ble_eq_true rfl)) dX3_dayAt_37 ⟨Nat.le_of_ble_eq_true rfl, Nat.le_of_ble_eq_true rfl⟩) hS (fun a _ h => kAy_tr hrA hS.1 a h) (fun a h => kAy_tr hrA hS.1 a h) (fun H locs hP9 hz9 hk9 hS => ?_)
        have hP : va_P (dC, dI) vwCl (kY dA m0 r0 σ (ex2 false true) ++ ([] : va_W)) _ := hP9
        have hD : va_D (kAy m0 r0 s.heap.size) (kY dA m0 r0 σ (ex2 false true) ++ ([] : va_W)) := by rw [← kap]; exact kYD_A hr hrA
        refine kz_ifb_eq (tgt := 45) hx hb  dX3_dayAt_40 (by decide) (fun c_10 => absurd (kf_f c_10).2 (by decide)) (fun c_10 => ?_)
        have hX : ex2 (!inb z1 0 3 || !inb z2 0 3) (!inb nn 1 31) = ex2 false true := by first | rfl | simp only [c_1, c_5, c_6, Bool.true_or, Bool.or_true, Bool.false_or, Bool.or_false, Bool.not_true, Bool.not_false]
        have hN : ¬ ex2 (!inb z1 0 3 || !inb z2 0 3) (!inb nn 1 31) = 0 := kf_ne hX c_10
        refine lv_iconst (v := iZ 0) hx hb dX3_dayAt_43 rfl ?_
        refine W.widen (k := 1) (n := 3) (Nat.le_of_ble_eq_true rfl) (Nat.le_of_ble_eq_true rfl) ?_
        exact W.iret (v := iZ 0) hx hb hr9 (fun t ht hW => ⟨⟨congrArg (fun z : Int => Outcome.returned (some (Value.int (iZ z)))) (show 0 = (if ex2 (!inb z1 0 3 || !inb z2 0 3) (!inb nn 1 31) = 0 then (if nn ≤ mlen (leap (σ 0 (z2.toNat))) (σ 1 (z2.toNat)) then 1 + (dnum (σ 0 (z2.toNat)) (σ 1 (z2.toNat)) nn + 3) % 7 else -9) else 0) from by rw [if_neg hN]), gY_cast ⟨r0, hr, hrA, by rw [ht]; exact va_Pl hP⟩ (show (σ) = (if ex2 (!inb z1 0 3 || !inb z2 0 3) (!inb nn 1 31) = 0 then (if nn ≤ mlen (leap (σ 0 (z2.toNat))) (σ 1 (z2.toNat)) then setD σ (z1.toNat) (σ 0 (z2.toNat)) (σ 1 (z2.toNat)) nn else σ) else σ) from by rw [if_neg hN]) (show (ex2 false true) = ex2 (!inb z1 0 3 || !inb z2 0 3) (!inb nn 1 31) from hX.symm)⟩, hS.F ht⟩) hS.2.2 dX3_dayAt_44
    · refine lv_iconst (v := iZ 1) hx hb dX3_dayAt_15 rfl ?_
      refine lv_goto (tgt := 20) hx hb dX3_dayAt_16 (by decide) ?_
      refine lv_iload_n hx hb dX3_dayAt_20 rfl (lv_at hl 3 rfl) ?_
      refine kz_i2l hx hb (by first | omega | (rw [setD_5, setD_6, setD_7]; have := dnum_rng (y := σ 0 p2) (m := σ 1 p2) (d := nn) (by omega) (by omega) (by omega); omega) | (rw [setD_k (by decide), setD_k (by decide)]; omega)) dX3_dayAt_21 ?_
      refine lv_lconst (v := lZ 1) hx hb dX3_dayAt_22 rfl ?_
      refine lv_ldc2 (v := lZ 31) hx hb hown (hts _ (List.mem_cons_of_mem _ mw1179)) dX3_dayAt_23 ?_
      refine kc0 (fun _ q => q) (va_runS (As := [.long (lZ (nn)), .long (lZ (1)), .long (lZ (31))]) (rest := [.int (iZ 1), .ref m0]) ⟨hx, hb, hml, hown, hts⟩ (c_X3_isIn l _ (nn) (1) (31) (by first | omega | (rw [setD_5]; omega) | (rw [setD_6]; omega) | (rw [setD_7]; omega) | (rw [setD_k (by decide)]; omega) | (rw [setD_k (by decide), setD_k (by decide)]; omega)) (by first | omega | (rw [setD_5]; omega) | (rw [setD_6]; omega) | (rw [setD_7]; omega) | (rw [setD_k (by decide)]; omega) | (rw [setD_k (by decide), setD_k (by decide)]; omega)) (by first | omega | (rw [setD_5]; omega) | (rw [setD_6]; omega) | (rw [setD_7]; omega) | (rw [setD_k (by decide)]; omega) | (rw [setD_k (by decide), setD_k (by decide)]; omega))) (va_cwS 3 hts (kg_S mw1025 mw1026 mw47 rfl mw1027) rfl rfl rfl hdS_X3_isIn ⟨Nat.le_of_ble_eq_true rfl, Nat.le_of_ble_eq_true rfl⟩) ⟨fun a U g mk q => q, fun U hU hW => ⟨rfl, hU⟩⟩ rfl rfl hl.1 rfl (lv_room (Nat.le_of_ble_eq_true rfl)) dX3_dayAt_26 ⟨Nat.le_of_ble_eq_true rfl, Nat.le_of_ble_eq_true rfl⟩) ?_
      refine kz_ifb_ne (tgt := 36) hx hb  dX3_dayAt_29 (by decide) (fun c_11 => ?_) (fun c_11 => ?_)
      · refine lv_iconst (v := iZ 0) hx hb dX3_dayAt_36 rfl ?_
        refine kc2 (va_runV (As := [.int (iZ (bZ true)), .int (iZ (bZ false))]) (rest := []) ⟨hx, hb, hml, hown, hts⟩ (c_X3_fails l dC dI dA k m0 (r0) (σ) (th) _ (va_Pl hP) hr hOK true false ) (cwV 2 hts (kg_V mw1037 mw1038 mw27 mw47 rfl mw1039) rfl rfl rfl hdV_X3_fails ⟨Nat.le_of_ble_eq_true rfl, Nat.le_of_ble_eq_true rfl⟩) ⟨fun a U g mk q => ⟨q.1, q.2.1, kM_call q.2.2⟩, va_recv hM.1 hP (ci := 6) (q0 := 0) rfl rfl, fun U hU hW => ⟨rfl, hU, kM_kept hM hS hAN hU hW⟩⟩ rfl rfl hl.1 rfl (lv_room (Nat.le_of_ble_eq_true rfl)) dX3_dayAt_37 ⟨Nat.le_of_ble_eq_true rfl, Nat.le_of_ble_eq_true rfl⟩) hS (fun a _ h => kAy_tr hrA hS.1 a h) (fun a h => kAy_tr hrA hS.1 a h) (fun H locs hP9 hz9 hk9 hS => ?_)
        have hP : va_P (dC, dI) vwCl (kY dA m0 r0 σ (ex2 true false) ++ ([] : va_W)) _ := hP9
        have hD : va_D (kAy m0 r0 s.heap.size) (kY dA m0 r0 σ (ex2 true false) ++ ([] : va_W)) := by rw [← kap]; exact kYD_A hr hrA
        refine kz_ifb_eq (tgt := 45) hx hb  dX3_dayAt_40 (by decide) (fun c_12 => absurd (kf_f c_12).1 (by decide)) (fun c_12 => ?_)
        have hX : ex2 (!inb z1 0 3 || !inb z2 0 3) (!inb nn 1 31) = ex2 true false := by first | rfl | simp only [c_1, c_5, c_11, Bool.true_or, Bool.or_true, Bool.false_or, Bool.or_false, Bool.not_true, Bool.not_false]
        have hN : ¬ ex2 (!inb z1 0 3 || !inb z2 0 3) (!inb nn 1 31) = 0 := kf_ne hX c_12
        refine lv_iconst (v := iZ 0) hx hb dX3_dayAt_43 rfl ?_
        refine W.widen (k := 1) (n := 3) (Nat.le_of_ble_eq_true rfl) (Nat.le_of_ble_eq_true rfl) ?_
        exact W.iret (v := iZ 0) hx hb hr9 (fun t ht hW => ⟨⟨congrArg (fun z : Int => Outcome.returned (some (Value.int (iZ z)))) (show 0 = (if ex2 (!inb z1 0 3 || !inb z2 0 3) (!inb nn 1 31) = 0 then (if nn ≤ mlen (leap (σ 0 (z2.toNat))) (σ 1 (z2.toNat)) then 1 + (dnum (σ 0 (z2.toNat)) (σ 1 (z2.toNat)) nn + 3) % 7 else -9) else 0) from by rw [if_neg hN]), gY_cast ⟨r0, hr, hrA, by rw [ht]; exact va_Pl hP⟩ (show (σ) = (if ex2 (!inb z1 0 3 || !inb z2 0 3) (!inb nn 1 31) = 0 then (if nn ≤ mlen (leap (σ 0 (z2.toNat))) (σ 1 (z2.toNat)) then setD σ (z1.toNat) (σ 0 (z2.toNat)) (σ 1 (z2.toNat)) nn else σ) else σ) from by rw [if_neg hN]) (show (ex2 true false) = ex2 (!inb z1 0 3 || !inb z2 0 3) (!inb nn 1 31) from hX.symm)⟩, hS.F ht⟩) hS.2.2 dX3_dayAt_44
      · refine lv_iconst (v := iZ 1) hx hb dX3_dayAt_32 rfl ?_
        refine lv_goto (tgt := 37) hx hb dX3_dayAt_33 (by decide) ?_
        refine kc2 (va_runV (As := [.int (iZ (bZ true)), .int (iZ (bZ true))]) (rest := []) ⟨hx, hb, hml, hown, hts⟩ (c_X3_fails l dC dI dA k m0 (r0) (σ) (th) _ (va_Pl hP) hr hOK true true ) (cwV 2 hts (kg_V mw1037 mw1038 mw27 mw47 rfl mw1039) rfl rfl rfl hdV_X3_fails ⟨Nat.le_of_ble_eq_true rfl, Nat.le_of_ble_eq_true rfl⟩) ⟨fun a U g mk q => ⟨q.1, q.2.1, kM_call q.2.2⟩, va_recv hM.1 hP (ci := 6) (q0 := 0) rfl rfl, fun U hU hW => ⟨rfl, hU, kM_kept hM hS hAN hU hW⟩⟩ rfl rfl hl.1 rfl (lv_room (Nat.le_of_ble_eq_true rfl)) dX3_dayAt_37 ⟨Nat.le_of_ble_eq_true rfl, Nat.le_of_ble_eq_true rfl⟩) hS (fun a _ h => kAy_tr hrA hS.1 a h) (fun a h => kAy_tr hrA hS.1 a h) (fun H locs hP9 hz9 hk9 hS => ?_)
        have hP : va_P (dC, dI) vwCl (kY dA m0 r0 σ (ex2 true true) ++ ([] : va_W)) _ := hP9
        have hD : va_D (kAy m0 r0 s.heap.size) (kY dA m0 r0 σ (ex2 true true) ++ ([] : va_W)) := by rw [← kap]; exact kYD_A hr hrA
        refine kz_ifb_eq (tgt := 45) hx hb  dX3_dayAt_40 (by decide) (fun c_13 => absurd (kf_f c_13).1 (by decide)) (fun c_13 => ?_)
        have hX : ex2 (!inb z1 0 3 || !inb z2 0 3) (!inb nn 1 31) = ex2 true true := by first | rfl | simp only [c_1, c_5, c_11, Bool.true_or, Bool.or_true, Bool.false_or, Bool.or_false, Bool.not_true, Bool.not_false]
        have hN : ¬ ex2 (!inb z1 0 3 || !inb z2 0 3) (!inb nn 1 31) = 0 := kf_ne hX c_13
        refine lv_iconst (v := iZ 0) hx hb dX3_dayAt_43 rfl ?_
        refine W.widen (k := 1) (n := 3) (Nat.le_of_ble_eq_true rfl) (Nat.le_of_ble_eq_true rfl) ?_
        exact W.iret (v := iZ 0) hx hb hr9 (fun t ht hW => ⟨⟨congrArg (fun z : Int => Outcome.returned (some (Value.int (iZ z)))) (show 0 = (if ex2 (!inb z1 0 3 || !inb z2 0 3) (!inb nn 1 31) = 0 then (if nn ≤ mlen (leap (σ 0 (z2.toNat))) (σ 1 (z2.toNat)) then 1 + (dnum (σ 0 (z2.toNat)) (σ 1 (z2.toNat)) nn + 3) % 7 else -9) else 0) from by rw [if_neg hN]), gY_cast ⟨r0, hr, hrA, by rw [ht]; exact va_Pl hP⟩ (show (σ) = (if ex2 (!inb z1 0 3 || !inb z2 0 3) (!inb nn 1 31) = 0 then (if nn ≤ mlen (leap (σ 0 (z2.toNat))) (σ 1 (z2.toNat)) then setD σ (z1.toNat) (σ 0 (z2.toNat)) (σ 1 (z2.toNat)) nn else σ) else σ) from by rw [if_neg hN]) (show (ex2 true true) = ex2 (!inb z1 0 3 || !inb z2 0 3) (!inb nn 1 31) from hX.symm)⟩, hS.F ht⟩) hS.2.2 dX3_dayAt_44

abbrev ww_X3_dayEnd : List Cond := .code yX3_dayEnd cX3_dayEnd 3 (some .int) :: gT
set_option maxHeartbeats 4000000 in
set_option maxRecDepth 100000 in
theorem c_X3_dayEnd (l : Launch) (dC : Nat → ClassId) (dI : Nat → Nat → Nat) (dA : Nat → ClassId) (k : Nat → Nat) (m0 : Nat) (r0 : Nat → Nat → Nat) (σ : Nat → Nat → Int) (th : Int) (H0 : Heap) (hP : va_P (dC, dI) vwCl (kY dA m0 r0 σ th) H0) (hr : kRI m0 r0 k) (hOK : kOK σ) (z1 : Int) (z2 : Int) (rz1 : -2147483648 ≤ z1 ∧ z1 < 2147483648) (rz2 : -2147483648 ≤ z2 ∧ z2 < 2147483648) : Met l yX3_dayEnd ww_X3_dayEnd ({ frames := 4, cells := 1, slots := 3, locals := 86 }) (va_Pc [.ref m0, .int (iZ z1), .int (iZ z2)] (fun U => U.heap = H0 ∧ kM dC dI dA k U)) (kQ2 (some (.int (iZ (if ex2 (!inb z1 0 3 || !inb z2 0 3) (false) = 0 then (mlen (leap (σ 0 (z2.toNat))) (σ 1 (z2.toNat))) else 0)))) (gY dC dI dA k m0 r0 H0.size (if ex2 (!inb z1 0 3 || !inb z2 0 3) (false) = 0 then (setD σ (z1.toNat) (σ 0 (z2.toNat)) (σ 1 (z2.toNat)) (mlen (leap (σ 0 (z2.toNat))) (σ 1 (z2.toNat)))) else σ) (ex2 (!inb z1 0 3 || !inb z2 0 3) (false))) (kAy m0 r0 H0.size)) 1 3 (kAy m0 r0 H0.size) := by
  refine Met.ofW (cc := cX3_dayEnd) (maxL := 3) (ret := (some .int)) (by decide) rfl ?_
  intro p e s m args below meth c s₁ B hml hv
  obtain ⟨rfl, hH, hM⟩ := hv
  subst hH
  have hr0 := hr
  have hAN : ∀ a, kAy m0 r0 s.heap.size a → k 0 ≤ a := fun a h => kAy_N hr0 hM.2.1.1 a h
  have hrA : ∀ i : Nat, i < 17 → kAy m0 r0 s.heap.size (kR m0 r0 i) := fun i hi => Or.inl ⟨i, hi, rfl⟩
  have hD : va_D (kAy m0 r0 s.heap.size) (kY dA m0 r0 σ (th) ++ ([] : va_W)) := by rw [← kap]; exact kYD_A hr hrA
  have hP : va_P (dC, dI) vwCl (kY dA m0 r0 σ (th) ++ ([] : va_W)) s.heap := hP
  have hS : va_S (kAy m0 r0 s.heap.size) s.heap s.heap [] := va_S.rf
  have hx := B.exec
  have hb := B.bytes
  have hr9 := B.returns
  have hts := atoms_spec (ws := ww_X3_dayEnd) B.pre
  have hown : s.vm.findClass RX3 = some m.cls := findClass_of_methodNamed B.named
  have hlocks := B.notSynchronized
  have hl := lv_entry ([.ref m0, .int (iZ z1), .int (iZ z2)]) (n := 3) (Nat.le_of_ble_eq_true rfl)
  rw [lg_entry_eq]
  generalize (lg_sl ([.ref m0, .int (iZ z1), .int (iZ z2)]) ++ List.replicate (3 - (lg_sl ([.ref m0, .int (iZ z1), .int (iZ z2)])).length) Slot.unset).toArray = ls at hl ⊢
  have hl : lv_has ls 3 [(0, .ref m0), (1, .int (iZ z1)), (2, .int (iZ z2))] := hl
  refine lv_aload_n hx hb dX3_dayEnd_0 rfl (lv_at hl 0 rfl) ?_
  refine lv_iload_n hx hb dX3_dayEnd_1 rfl (lv_at hl 1 rfl) ?_
  refine kc0 (fun _ q => q) (va_runS (As := [.int (iZ z1)]) (rest := [.ref m0]) ⟨hx, hb, hml, hown, hts⟩ (c_X3_isNo l _ (z1) (by first | omega | (rw [setD_5]; omega) | (rw [setD_6]; omega) | (rw [setD_7]; omega) | (rw [setD_k (by decide)]; omega) | (rw [setD_k (by decide), setD_k (by decide)]; omega))) (va_cwS 1 hts (kg_S mw1021 mw1022 mw47 rfl mw1023) rfl rfl rfl hdS_X3_isNo ⟨Nat.le_of_ble_eq_true rfl, Nat.le_of_ble_eq_true rfl⟩) ⟨fun a U g mk q => q, fun U hU hW => ⟨rfl, hU⟩⟩ rfl rfl hl.1 rfl (lv_room (Nat.le_of_ble_eq_true rfl)) dX3_dayEnd_2 ⟨Nat.le_of_ble_eq_true rfl, Nat.le_of_ble_eq_true rfl⟩) ?_
  refine kz_ifb_ne (tgt := 15) hx hb  dX3_dayEnd_5 (by decide) (fun c_1 => ?_) (fun c_1 => ?_)
  · refine lv_iconst (v := iZ 1) hx hb dX3_dayEnd_15 rfl ?_
    refine lv_goto (tgt := 20) hx hb dX3_dayEnd_16 (by decide) ?_
    refine lv_iconst (v := iZ 0) hx hb dX3_dayEnd_20 rfl ?_
    refine kc2 (va_runV (As := [.int (iZ (bZ true)), .int (iZ (bZ false))]) (rest := []) ⟨hx, hb, hml, hown, hts⟩ (c_X3_fails l dC dI dA k m0 (r0) (σ) (th) _ (va_Pl hP) hr hOK true false ) (cwV 2 hts (kg_V mw1037 mw1038 mw27 mw47 rfl mw1039) rfl rfl rfl hdV_X3_fails ⟨Nat.le_of_ble_eq_true rfl, Nat.le_of_ble_eq_true rfl⟩) ⟨fun a U g mk q => ⟨q.1, q.2.1, kM_call q.2.2⟩, va_recv hM.1 hP (ci := 6) (q0 := 0) rfl rfl, fun U hU hW => ⟨rfl, hU, kM_kept hM hS hAN hU hW⟩⟩ rfl rfl hl.1 rfl (lv_room (Nat.le_of_ble_eq_true rfl)) dX3_dayEnd_21 ⟨Nat.le_of_ble_eq_true rfl, Nat.le_of_ble_eq_true rfl⟩) hS (fun a _ h => kAy_tr hrA hS.1 a h) (fun a h => kAy_tr hrA hS.1 a h) (fun H locs hP9 hz9 hk9 hS => ?_)
    have hP : va_P (dC, dI) vwCl (kY dA m0 r0 σ (ex2 true false) ++ ([] : va_W)) _ := hP9
    have hD : va_D (kAy m0 r0 s.heap.size) (kY dA m0 r0 σ (ex2 true false) ++ ([] : va_W)) := by rw [← kap]; exact kYD_A hr hrA
    refine kz_ifb_eq (tgt := 29) hx hb  dX3_dayEnd_24 (by decide) (fun c_2 => absurd (kf_f c_2).1 (by decide)) (fun c_2 => ?_)
    have hX : ex2 (!inb z1 0 3 || !inb z2 0 3) (false) = ex2 true false := by first | rfl | simp only [c_1, Bool.true_or, Bool.or_true, Bool.false_or, Bool.or_false, Bool.not_true, Bool.not_false]
    have hN : ¬ ex2 (!inb z1 0 3 || !inb z2 0 3) (false) = 0 := kf_ne hX c_2
    refine lv_iconst (v := iZ 0) hx hb dX3_dayEnd_27 rfl ?_
    refine W.widen (k := 1) (n := 3) (Nat.le_of_ble_eq_true rfl) (Nat.le_of_ble_eq_true rfl) ?_
    exact W.iret (v := iZ 0) hx hb hr9 (fun t ht hW => ⟨⟨congrArg (fun z : Int => Outcome.returned (some (Value.int (iZ z)))) (show 0 = (if ex2 (!inb z1 0 3 || !inb z2 0 3) (false) = 0 then (mlen (leap (σ 0 (z2.toNat))) (σ 1 (z2.toNat))) else 0) from by rw [if_neg hN]), gY_cast ⟨r0, hr, hrA, by rw [ht]; exact va_Pl hP⟩ (show (σ) = (if ex2 (!inb z1 0 3 || !inb z2 0 3) (false) = 0 then (setD σ (z1.toNat) (σ 0 (z2.toNat)) (σ 1 (z2.toNat)) (mlen (leap (σ 0 (z2.toNat))) (σ 1 (z2.toNat)))) else σ) from by rw [if_neg hN]) (show (ex2 true false) = ex2 (!inb z1 0 3 || !inb z2 0 3) (false) from hX.symm)⟩, hS.F ht⟩) hS.2.2 dX3_dayEnd_28
  · refine lv_iload_n hx hb dX3_dayEnd_8 rfl (lv_at hl 2 rfl) ?_
    refine kc0 (fun _ q => q) (va_runS (As := [.int (iZ z2)]) (rest := [.ref m0]) ⟨hx, hb, hml, hown, hts⟩ (c_X3_isNo l _ (z2) (by first | omega | (rw [setD_5]; omega) | (rw [setD_6]; omega) | (rw [setD_7]; omega) | (rw [setD_k (by decide)]; omega) | (rw [setD_k (by decide), setD_k (by decide)]; omega))) (va_cwS 1 hts (kg_S mw1021 mw1022 mw47 rfl mw1023) rfl rfl rfl hdS_X3_isNo ⟨Nat.le_of_ble_eq_true rfl, Nat.le_of_ble_eq_true rfl⟩) ⟨fun a U g mk q => q, fun U hU hW => ⟨rfl, hU⟩⟩ rfl rfl hl.1 rfl (lv_room (Nat.le_of_ble_eq_true rfl)) dX3_dayEnd_9 ⟨Nat.le_of_ble_eq_true rfl, Nat.le_of_ble_eq_true rfl⟩) ?_
    refine kz_ifb_eq (tgt := 19) hx hb  dX3_dayEnd_12 (by decide) (fun c_3 => ?_) (fun c_3 => ?_)
    · refine lv_iconst (v := iZ 0) hx hb dX3_dayEnd_19 rfl ?_
      refine lv_iconst (v := iZ 0) hx hb dX3_dayEnd_20 rfl ?_
      refine kc2 (va_runV (As := [.int (iZ (bZ false)), .int (iZ (bZ false))]) (rest := []) ⟨hx, hb, hml, hown, hts⟩ (c_X3_fails l dC dI dA k m0 (r0) (σ) (th) _ (va_Pl hP) hr hOK false false ) (cwV 2 hts (kg_V mw1037 mw1038 mw27 mw47 rfl mw1039) rfl rfl rfl hdV_X3_fails ⟨Nat.le_of_ble_eq_true rfl, Nat.le_of_ble_eq_true rfl⟩) ⟨fun a U g mk q => ⟨q.1, q.2.1, kM_call q.2.2⟩, va_recv hM.1 hP (ci := 6) (q0 := 0) rfl rfl, fun U hU hW => ⟨rfl, hU, kM_kept hM hS hAN hU hW⟩⟩ rfl rfl hl.1 rfl (lv_room (Nat.le_of_ble_eq_true rfl)) dX3_dayEnd_21 ⟨Nat.le_of_ble_eq_true rfl, Nat.le_of_ble_eq_true rfl⟩) hS (fun a _ h => kAy_tr hrA hS.1 a h) (fun a h => kAy_tr hrA hS.1 a h) (fun H locs hP9 hz9 hk9 hS => ?_)
      have hP : va_P (dC, dI) vwCl (kY dA m0 r0 σ (ex2 false false) ++ ([] : va_W)) _ := hP9
      have hD : va_D (kAy m0 r0 s.heap.size) (kY dA m0 r0 σ (ex2 false false) ++ ([] : va_W)) := by rw [← kap]; exact kYD_A hr hrA
      refine kz_ifb_eq (tgt := 29) hx hb  dX3_dayEnd_24 (by decide) (fun c_4 => ?_) (fun c_4 => absurd (show ex2 false false = 0 from rfl) (kf_t c_4))
      have hX : ex2 (!inb z1 0 3 || !inb z2 0 3) (false) = ex2 false false := by first | rfl | simp only [c_1, c_3, Bool.true_or, Bool.or_true, Bool.false_or, Bool.or_false, Bool.not_true, Bool.not_false]
      have hZ : ex2 (!inb z1 0 3 || !inb z2 0 3) (false) = 0 := kf_eq hX c_4
      obtain ⟨hA9, hB9⟩ := ex2_z hZ
      simp only [Bool.or_eq_false_iff, Bool.not_eq_false', Bool.not_eq_true', inb, decide_eq_true_eq, decide_eq_false_iff_not, noThing_niff] at hA9
      obtain ⟨p1, hp1, rfl⟩ : ∃ p1 : Nat, p1 < 4 ∧ z1 = (p1 : Int) := ⟨z1.toNat, by omega, by omega⟩
      have o_p1 := kOKr hOK hp1
      have l_p1 := mlen_rng (leap (σ 0 p1)) (σ 1 p1)
      have n_p1 := dnum_rng (y := σ 5 p1) (m := σ 6 p1) (d := σ 7 p1) (by omega) (by omega) (by omega)
      obtain ⟨p2, hp2, rfl⟩ : ∃ p2 : Nat, p2 < 4 ∧ z2 = (p2 : Int) := ⟨z2.toNat, by omega, by omega⟩
      have o_p2 := kOKr hOK hp2
      have l_p2 := mlen_rng (leap (σ 0 p2)) (σ 1 p2)
      have n_p2 := dnum_rng (y := σ 5 p2) (m := σ 6 p2) (d := σ 7 p2) (by omega) (by omega) (by omega)
      have hP := kY0 hP (kf_e c_4)
      have hD := kD0 hD (kf_e c_4)
      refine lv_aload_n hx hb dX3_dayEnd_29 rfl (lv_at hl 0 rfl) ?_
      refine lv_iload_n hx hb dX3_dayEnd_30 rfl (lv_at hl 1 rfl) ?_
      refine lv_aload_n hx hb dX3_dayEnd_31 rfl (lv_at hl 0 rfl) ?_
      refine va_get (D := (dC, dI)) (ci := 6) (v := .ref (r0 0 1)) (C := RX3) (T := TX3) (N := 6) hx hb hts (fun w h => List.mem_cons_of_mem _ (gF_2_in h)) hown hM.1 hP 0 rfl rfl 0 (by decide) (hts _ (List.mem_cons_of_mem _ mw1007)) (fun _ h9 => h9) rfl dX3_dayEnd_32 ?_
      refine lv_iload_n hx hb dX3_dayEnd_35 rfl (lv_at hl 2 rfl) ?_
      refine kz_aald (v := r0 1 p2) hx hb hM.1 hP 1 rfl (by omega) (by decide) rfl dX3_dayEnd_36 ?_
      refine lv_iconst (v := iZ 0) hx hb dX3_dayEnd_37 rfl ?_
      refine kz_iald (v := σ 0 p2) hx hb hM.1 hP (5 + p2) 0 (kY_L _ hp2) rfl (by omega) (by decide) rfl dX3_dayEnd_38 ?_
      refine lv_aload_n hx hb dX3_dayEnd_39 rfl (lv_at hl 0 rfl) ?_
      refine va_get (D := (dC, dI)) (ci := 6) (v := .ref (r0 0 1)) (C := RX3) (T := TX3) (N := 6) hx hb hts (fun w h => List.mem_cons_of_mem _ (gF_2_in h)) hown hM.1 hP 0 rfl rfl 0 (by decide) (hts _ (List.mem_cons_of_mem _ mw1007)) (fun _ h9 => h9) rfl dX3_dayEnd_40 ?_
      refine lv_iload_n hx hb dX3_dayEnd_43 rfl (lv_at hl 2 rfl) ?_
      refine kz_aald (v := r0 1 p2) hx hb hM.1 hP 1 rfl (by omega) (by decide) rfl dX3_dayEnd_44 ?_
      refine lv_iconst (v := iZ 1) hx hb dX3_dayEnd_45 rfl ?_
      refine kz_iald (v := σ 1 p2) hx hb hM.1 hP (5 + p2) 0 (kY_L _ hp2) rfl (by omega) (by decide) rfl dX3_dayEnd_46 ?_
      refine lv_aload_n hx hb dX3_dayEnd_47 rfl (lv_at hl 0 rfl) ?_
      refine lv_iload_n hx hb dX3_dayEnd_48 rfl (lv_at hl 2 rfl) ?_
      refine kc0 (fun _ q => q) (va_runV (As := [.int (iZ ((p2 : Nat) : Int))]) (rest := [.int (iZ (σ 1 p2)), .int (iZ (σ 0 p2)), .int (iZ ((p1 : Nat) : Int)), .ref m0]) ⟨hx, hb, hml, hown, hts⟩ (c_X3_lengthAt l dC dI dA k m0 (r0) (σ) (0) _ (va_Pl hP) hr hOK p2 hp2) (cwV 1 hts (kg_V mw1043 mw1044 mw29 mw47 rfl mw1045) rfl rfl rfl hdV_X3_lengthAt ⟨Nat.le_of_ble_eq_true rfl, Nat.le_of_ble_eq_true rfl⟩) ⟨fun a U g mk q => ⟨q.1, q.2.1, kM_call q.2.2⟩, va_recv hM.1 hP (ci := 6) (q0 := 0) rfl rfl, fun U hU hW => ⟨rfl, hU, kM_kept hM hS hAN hU hW⟩⟩ rfl rfl hl.1 rfl (lv_room (Nat.le_of_ble_eq_true rfl)) dX3_dayEnd_49 ⟨Nat.le_of_ble_eq_true rfl, Nat.le_of_ble_eq_true rfl⟩) ?_
      refine kc2 (va_runV (As := [.int (iZ ((p1 : Nat) : Int)), .int (iZ (σ 0 p2)), .int (iZ (σ 1 p2)), .int (iZ (mlen (leap (σ 0 p2)) (σ 1 p2)))]) (rest := []) ⟨hx, hb, hml, hown, hts⟩ (c_X3_putDay l dC dI dA k m0 (r0) (σ) (0) _ (va_Pl hP) hr hOK p1 ((σ 0 p2)) ((σ 1 p2)) ((mlen (leap (σ 0 p2)) (σ 1 p2))) hp1) (cwV 4 hts (kg_V mw1211 mw1212 mw33 mw47 rfl mw1213) rfl rfl rfl hdV_X3_putDay ⟨Nat.le_of_ble_eq_true rfl, Nat.le_of_ble_eq_true rfl⟩) ⟨fun a U g mk q => ⟨q.1, q.2.1, kM_call q.2.2⟩, va_recv hM.1 hP (ci := 6) (q0 := 0) rfl rfl, fun U hU hW => ⟨rfl, hU, kM_kept hM hS hAN hU hW⟩⟩ rfl rfl hl.1 rfl (lv_room (Nat.le_of_ble_eq_true rfl)) dX3_dayEnd_52 ⟨Nat.le_of_ble_eq_true rfl, Nat.le_of_ble_eq_true rfl⟩) hS (fun a _ h => kAy_tr hrA hS.1 a h) (fun a h => kAy_tr hrA hS.1 a h) (fun H locs hG hz9 hk9 hS9 => ?_)
      obtain ⟨r_5, hr, hrA9, hP⟩ := hG
      have hrA := kAy_tr2 hrA hS.1 hrA9
      have hS := hS9
      have hP : va_P (dC, dI) vwCl (kY dA m0 r_5 (setD σ p1 (((σ 0 p2))) (((σ 1 p2))) (((mlen (leap (σ 0 p2)) (σ 1 p2))))) (0) ++ ([] : va_W)) _ := hP
      have hD : va_D (kAy m0 r0 s.heap.size) (kY dA m0 r_5 (setD σ p1 (((σ 0 p2))) (((σ 1 p2))) (((mlen (leap (σ 0 p2)) (σ 1 p2))))) (0) ++ ([] : va_W)) := by rw [← kap]; exact kYD_A hr hrA
      refine lv_aload_n hx hb dX3_dayEnd_55 rfl (lv_at hl 0 rfl) ?_
      refine lv_iload_n hx hb dX3_dayEnd_56 rfl (lv_at hl 2 rfl) ?_
      refine kc0 (fun _ q => q) (va_runV (As := [.int (iZ ((p2 : Nat) : Int))]) (rest := []) ⟨hx, hb, hml, hown, hts⟩ (c_X3_lengthAt l dC dI dA k m0 (r_5) (setD σ p1 (((σ 0 p2))) (((σ 1 p2))) (((mlen (leap (σ 0 p2)) (σ 1 p2))))) (0) _ (va_Pl hP) hr (kOK_day hOK (by omega) (by omega) (by omega)) p2 hp2) (cwV 1 hts (kg_V mw1043 mw1044 mw29 mw47 rfl mw1045) rfl rfl rfl hdV_X3_lengthAt ⟨Nat.le_of_ble_eq_true rfl, Nat.le_of_ble_eq_true rfl⟩) ⟨fun a U g mk q => ⟨q.1, q.2.1, kM_call q.2.2⟩, va_recv hM.1 hP (ci := 6) (q0 := 0) rfl rfl, fun U hU hW => ⟨rfl, hU, kM_kept hM hS hAN hU hW⟩⟩ rfl rfl hl.1 rfl (lv_room (Nat.le_of_ble_eq_true rfl)) dX3_dayEnd_57 ⟨Nat.le_of_ble_eq_true rfl, Nat.le_of_ble_eq_true rfl⟩) ?_
      refine W.widen (k := 1) (n := 3) (Nat.le_of_ble_eq_true rfl) (Nat.le_of_ble_eq_true rfl) ?_
      exact W.iret (v := iZ (mlen (leap ((setD σ p1 (((σ 0 p2))) (((σ 1 p2))) (((mlen (leap (σ 0 p2)) (σ 1 p2))))) 0 p2)) ((setD σ p1 (((σ 0 p2))) (((σ 1 p2))) (((mlen (leap (σ 0 p2)) (σ 1 p2))))) 1 p2))) hx hb hr9 (fun t ht hW => ⟨⟨congrArg (fun z : Int => Outcome.returned (some (Value.int (iZ z)))) (show (mlen (leap ((setD σ p1 (((σ 0 p2))) (((σ 1 p2))) (((mlen (leap (σ 0 p2)) (σ 1 p2))))) 0 p2)) ((setD σ p1 (((σ 0 p2))) (((σ 1 p2))) (((mlen (leap (σ 0 p2)) (σ 1 p2))))) 1 p2)) = (if ex2 (!inb ((p1 : Nat) : Int) 0 3 || !inb ((p2 : Nat) : Int) 0 3) (false) = 0 then (mlen (leap (σ 0 p2)) (σ 1 p2)) else 0) from by rw [if_pos hZ]; rw [setD_k (by decide), setD_k (by decide)]), gY_cast ⟨r_5, hr, hrA, by rw [ht]; exact va_Pl hP⟩ (show (setD σ p1 (((σ 0 p2))) (((σ 1 p2))) (((mlen (leap (σ 0 p2)) (σ 1 p2))))) = (if ex2 (!inb ((p1 : Nat) : Int) 0 3 || !inb ((p2 : Nat) : Int) 0 3) (false) = 0 then (setD σ p1 (σ 0 p2) (σ 1 p2) (mlen (leap (σ 0 p2)) (σ 1 p2))) else σ) from by rw [if_pos hZ]; done) (show (0) = ex2 (!inb ((p1 : Nat) : Int) 0 3 || !inb ((p2 : Nat) : Int) 0 3) (false) from hZ.symm)⟩, hS.F ht⟩) hS.2.2 dX3_dayEnd_60
    · refine lv_iconst (v := iZ 1) hx hb dX3_dayEnd_15 rfl ?_
      refine lv_goto (tgt := 20) hx hb dX3_dayEnd_16 (by decide) ?_
      refine lv_iconst (v := iZ 0) hx hb dX3_dayEnd_20 rfl ?_
      refine kc2 (va_runV (As := [.int (iZ (bZ true)), .int (iZ (bZ false))]) (rest := []) ⟨hx, hb, hml, hown, hts⟩ (c_X3_fails l dC dI dA k m0 (r0) (σ) (th) _ (va_Pl hP) hr hOK true false ) (cwV 2 hts (kg_V mw1037 mw1038 mw27 mw47 rfl mw1039) rfl rfl rfl hdV_X3_fails ⟨Nat.le_of_ble_eq_true rfl, Nat.le_of_ble_eq_true rfl⟩) ⟨fun a U g mk q => ⟨q.1, q.2.1, kM_call q.2.2⟩, va_recv hM.1 hP (ci := 6) (q0 := 0) rfl rfl, fun U hU hW => ⟨rfl, hU, kM_kept hM hS hAN hU hW⟩⟩ rfl rfl hl.1 rfl (lv_room (Nat.le_of_ble_eq_true rfl)) dX3_dayEnd_21 ⟨Nat.le_of_ble_eq_true rfl, Nat.le_of_ble_eq_true rfl⟩) hS (fun a _ h => kAy_tr hrA hS.1 a h) (fun a h => kAy_tr hrA hS.1 a h) (fun H locs hP9 hz9 hk9 hS => ?_)
      have hP : va_P (dC, dI) vwCl (kY dA m0 r0 σ (ex2 true false) ++ ([] : va_W)) _ := hP9
      have hD : va_D (kAy m0 r0 s.heap.size) (kY dA m0 r0 σ (ex2 true false) ++ ([] : va_W)) := by rw [← kap]; exact kYD_A hr hrA
      refine kz_ifb_eq (tgt := 29) hx hb  dX3_dayEnd_24 (by decide) (fun c_6 => absurd (kf_f c_6).1 (by decide)) (fun c_6 => ?_)
      have hX : ex2 (!inb z1 0 3 || !inb z2 0 3) (false) = ex2 true false := by first | rfl | simp only [c_1, c_3, Bool.true_or, Bool.or_true, Bool.false_or, Bool.or_false, Bool.not_true, Bool.not_false]
      have hN : ¬ ex2 (!inb z1 0 3 || !inb z2 0 3) (false) = 0 := kf_ne hX c_6
      refine lv_iconst (v := iZ 0) hx hb dX3_dayEnd_27 rfl ?_
      refine W.widen (k := 1) (n := 3) (Nat.le_of_ble_eq_true rfl) (Nat.le_of_ble_eq_true rfl) ?_
      exact W.iret (v := iZ 0) hx hb hr9 (fun t ht hW => ⟨⟨congrArg (fun z : Int => Outcome.returned (some (Value.int (iZ z)))) (show 0 = (if ex2 (!inb z1 0 3 || !inb z2 0 3) (false) = 0 then (mlen (leap (σ 0 (z2.toNat))) (σ 1 (z2.toNat))) else 0) from by rw [if_neg hN]), gY_cast ⟨r0, hr, hrA, by rw [ht]; exact va_Pl hP⟩ (show (σ) = (if ex2 (!inb z1 0 3 || !inb z2 0 3) (false) = 0 then (setD σ (z1.toNat) (σ 0 (z2.toNat)) (σ 1 (z2.toNat)) (mlen (leap (σ 0 (z2.toNat))) (σ 1 (z2.toNat)))) else σ) from by rw [if_neg hN]) (show (ex2 true false) = ex2 (!inb z1 0 3 || !inb z2 0 3) (false) from hX.symm)⟩, hS.F ht⟩) hS.2.2 dX3_dayEnd_28

abbrev ww_X3_yearUnits : List Cond := .code yX3_yearUnits cX3_yearUnits 5 (some .int) :: gT
set_option maxHeartbeats 4000000 in
set_option maxRecDepth 100000 in
theorem c_X3_yearUnits (l : Launch) (dC : Nat → ClassId) (dI : Nat → Nat → Nat) (dA : Nat → ClassId) (k : Nat → Nat) (m0 : Nat) (r0 : Nat → Nat → Nat) (σ : Nat → Nat → Int) (th : Int) (H0 : Heap) (hP : va_P (dC, dI) vwCl (kY dA m0 r0 σ th) H0) (hr : kRI m0 r0 k) (hOK : kOK σ) (z1 : Int) (uu : Int) (mm : Int) (bb : Bool) (rz1 : -2147483648 ≤ z1 ∧ z1 < 2147483648) (ruu : -2147483648 ≤ uu ∧ uu < 2147483648) (rmm : -2147483648 ≤ mm ∧ mm < 2147483648) : Met l yX3_yearUnits ww_X3_yearUnits ({ frames := 4, cells := 0, slots := 0, locals := 87 }) (va_Pc [.ref m0, .int (iZ z1), .int (iZ uu), .int (iZ mm), .int (iZ (bZ (bb)))] (fun U => U.heap = H0 ∧ kM dC dI dA k U)) (kQ2 (some (.int (iZ (if ex2 (!inb z1 0 3) (!inb uu 1 4) = 0 then (putYr (σ 2 (z1.toNat) + sgn (mm * yus uu) bb)) else 0)))) (gY dC dI dA k m0 r0 H0.size (if ex2 (!inb z1 0 3) (!inb uu 1 4) = 0 then (putYs σ (z1.toNat) (σ 2 (z1.toNat) + sgn (mm * yus uu) bb)) else σ) (ex2 (!inb z1 0 3) (!inb uu 1 4))) (kAy m0 r0 H0.size)) 0 0 (kAy m0 r0 H0.size) := by
  refine Met.ofW (cc := cX3_yearUnits) (maxL := 5) (ret := (some .int)) (by decide) rfl ?_
  intro p e s m args below meth c s₁ B hml hv
  obtain ⟨rfl, hH, hM⟩ := hv
  subst hH
  have hr0 := hr
  have hAN : ∀ a, kAy m0 r0 s.heap.size a → k 0 ≤ a := fun a h => kAy_N hr0 hM.2.1.1 a h
  have hrA : ∀ i : Nat, i < 17 → kAy m0 r0 s.heap.size (kR m0 r0 i) := fun i hi => Or.inl ⟨i, hi, rfl⟩
  have hD : va_D (kAy m0 r0 s.heap.size) (kY dA m0 r0 σ (th) ++ ([] : va_W)) := by rw [← kap]; exact kYD_A hr hrA
  have hP : va_P (dC, dI) vwCl (kY dA m0 r0 σ (th) ++ ([] : va_W)) s.heap := hP
  have hS : va_S (kAy m0 r0 s.heap.size) s.heap s.heap [] := va_S.rf
  have hx := B.exec
  have hb := B.bytes
  have hr9 := B.returns
  have hts := atoms_spec (ws := ww_X3_yearUnits) B.pre
  have hown : s.vm.findClass RX3 = some m.cls := findClass_of_methodNamed B.named
  have hlocks := B.notSynchronized
  have hl := lv_entry ([.ref m0, .int (iZ z1), .int (iZ uu), .int (iZ mm), .int (iZ (bZ (bb)))]) (n := 5) (Nat.le_of_ble_eq_true rfl)
  rw [lg_entry_eq]
  generalize (lg_sl ([.ref m0, .int (iZ z1), .int (iZ uu), .int (iZ mm), .int (iZ (bZ (bb)))]) ++ List.replicate (5 - (lg_sl ([.ref m0, .int (iZ z1), .int (iZ uu), .int (iZ mm), .int (iZ (bZ (bb)))])).length) Slot.unset).toArray = ls at hl ⊢
  have hl : lv_has ls 5 [(0, .ref m0), (1, .int (iZ z1)), (2, .int (iZ uu)), (3, .int (iZ mm)), (4, .int (iZ (bZ (bb))))] := hl
  refine lv_aload_n hx hb dX3_yearUnits_0 rfl (lv_at hl 0 rfl) ?_
  refine lv_iload_n hx hb dX3_yearUnits_1 rfl (lv_at hl 1 rfl) ?_
  refine kc0 (fun _ q => q) (va_runS (As := [.int (iZ z1)]) (rest := [.ref m0]) ⟨hx, hb, hml, hown, hts⟩ (c_X3_isNo l _ (z1) (by first | omega | (have := usize_rng uu; first | omega | (have := yus_e (u := uu) (by omega); have := yus_rng uu; first | omega | (have := kyu_rng (u := uu) (b := bb) (by omega) rmm; omega))))) (va_cwS 1 hts (kg_S mw1021 mw1022 mw47 rfl mw1023) rfl rfl rfl hdS_X3_isNo ⟨Nat.le_of_ble_eq_true rfl, Nat.le_of_ble_eq_true rfl⟩) ⟨fun a U g mk q => q, fun U hU hW => ⟨rfl, hU⟩⟩ rfl rfl hl.1 rfl (lv_room (Nat.le_of_ble_eq_true rfl)) dX3_yearUnits_2 ⟨Nat.le_of_ble_eq_true rfl, Nat.le_of_ble_eq_true rfl⟩) ?_
  refine lv_iload_n hx hb dX3_yearUnits_5 rfl (lv_at hl 2 rfl) ?_
  refine kz_i2l hx hb (by first | omega | (have := usize_rng uu; first | omega | (have := yus_e (u := uu) (by omega); have := yus_rng uu; first | omega | (have := kyu_rng (u := uu) (b := bb) (by omega) rmm; omega)))) dX3_yearUnits_6 ?_
  refine lv_lconst (v := lZ 1) hx hb dX3_yearUnits_7 rfl ?_
  refine lv_ldc2 (v := lZ 4) hx hb hown (hts _ (List.mem_cons_of_mem _ mw1090)) dX3_yearUnits_8 ?_
  refine kc0 (fun _ q => q) (va_runS (As := [.long (lZ (uu)), .long (lZ (1)), .long (lZ (4))]) (rest := [.int (iZ (bZ (!inb ((z1)) 0 3))), .ref m0]) ⟨hx, hb, hml, hown, hts⟩ (c_X3_isIn l _ (uu) (1) (4) (by first | omega | (have := usize_rng uu; first | omega | (have := yus_e (u := uu) (by omega); have := yus_rng uu; first | omega | (have := kyu_rng (u := uu) (b := bb) (by omega) rmm; omega)))) (by first | omega | (have := usize_rng uu; first | omega | (have := yus_e (u := uu) (by omega); have := yus_rng uu; first | omega | (have := kyu_rng (u := uu) (b := bb) (by omega) rmm; omega)))) (by first | omega | (have := usize_rng uu; first | omega | (have := yus_e (u := uu) (by omega); have := yus_rng uu; first | omega | (have := kyu_rng (u := uu) (b := bb) (by omega) rmm; omega))))) (va_cwS 3 hts (kg_S mw1025 mw1026 mw47 rfl mw1027) rfl rfl rfl hdS_X3_isIn ⟨Nat.le_of_ble_eq_true rfl, Nat.le_of_ble_eq_true rfl⟩) ⟨fun a U g mk q => q, fun U hU hW => ⟨rfl, hU⟩⟩ rfl rfl hl.1 rfl (lv_room (Nat.le_of_ble_eq_true rfl)) dX3_yearUnits_11 ⟨Nat.le_of_ble_eq_true rfl, Nat.le_of_ble_eq_true rfl⟩) ?_
  refine kz_ifb_ne (tgt := 21) hx hb  dX3_yearUnits_14 (by decide) (fun c_1 => ?_) (fun c_1 => ?_)
  · refine lv_iconst (v := iZ 0) hx hb dX3_yearUnits_21 rfl ?_
    refine kc2 (va_runV (As := [.int (iZ (bZ (!inb ((z1)) 0 3))), .int (iZ (bZ false))]) (rest := []) ⟨hx, hb, hml, hown, hts⟩ (c_X3_fails l dC dI dA k m0 (r0) (σ) (th) _ (va_Pl hP) hr hOK (!inb ((z1)) 0 3) false ) (cwV 2 hts (kg_V mw1037 mw1038 mw27 mw47 rfl mw1039) rfl rfl rfl hdV_X3_fails ⟨Nat.le_of_ble_eq_true rfl, Nat.le_of_ble_eq_true rfl⟩) ⟨fun a U g mk q => ⟨q.1, q.2.1, kM_call q.2.2⟩, va_recv hM.1 hP (ci := 6) (q0 := 0) rfl rfl, fun U hU hW => ⟨rfl, hU, kM_kept hM hS hAN hU hW⟩⟩ rfl rfl hl.1 rfl (lv_room (Nat.le_of_ble_eq_true rfl)) dX3_yearUnits_22 ⟨Nat.le_of_ble_eq_true rfl, Nat.le_of_ble_eq_true rfl⟩) hS (fun a _ h => kAy_tr hrA hS.1 a h) (fun a h => kAy_tr hrA hS.1 a h) (fun H locs hP9 hz9 hk9 hS => ?_)
    have hP : va_P (dC, dI) vwCl (kY dA m0 r0 σ (ex2 ((!inb ((z1)) 0 3)) false) ++ ([] : va_W)) _ := hP9
    have hD : va_D (kAy m0 r0 s.heap.size) (kY dA m0 r0 σ (ex2 ((!inb ((z1)) 0 3)) false) ++ ([] : va_W)) := by rw [← kap]; exact kYD_A hr hrA
    refine kz_ifb_eq (tgt := 32) hx hb  dX3_yearUnits_25 (by decide) (fun c_2 => ?_) (fun c_2 => ?_)
    · have hX : ex2 (!inb z1 0 3) (!inb uu 1 4) = ex2 (!inb ((z1)) 0 3) false := by first | rfl | simp only [c_1, Bool.true_or, Bool.or_true, Bool.false_or, Bool.or_false, Bool.not_true, Bool.not_false]
      have hZ : ex2 (!inb z1 0 3) (!inb uu 1 4) = 0 := kf_eq hX c_2
      obtain ⟨hA9, hB9⟩ := ex2_z hZ
      simp only [Bool.or_eq_false_iff, Bool.not_eq_false', Bool.not_eq_true', inb, decide_eq_true_eq, decide_eq_false_iff_not, noThing_niff] at hA9
      simp only [Bool.or_eq_false_iff, Bool.not_eq_false', Bool.not_eq_true', inb, decide_eq_true_eq, decide_eq_false_iff_not, noThing_niff] at hB9
      obtain ⟨p1, hp1, rfl⟩ : ∃ p1 : Nat, p1 < 4 ∧ z1 = (p1 : Int) := ⟨z1.toNat, by omega, by omega⟩
      have o_p1 := kOKr hOK hp1
      have l_p1 := mlen_rng (leap (σ 0 p1)) (σ 1 p1)
      have n_p1 := dnum_rng (y := σ 5 p1) (m := σ 6 p1) (d := σ 7 p1) (by omega) (by omega) (by omega)
      have hP := kY0 hP (kf_e c_2)
      have hD := kD0 hD (kf_e c_2)
      refine lv_aload_n hx hb dX3_yearUnits_32 rfl (lv_at hl 0 rfl) ?_
      refine lv_iload_n hx hb dX3_yearUnits_33 rfl (lv_at hl 1 rfl) ?_
      refine lv_aload_n hx hb dX3_yearUnits_34 rfl (lv_at hl 0 rfl) ?_
      refine va_get (D := (dC, dI)) (ci := 6) (v := .ref (r0 0 2)) (C := RX3) (T := TX3) (N := 6) hx hb hts (fun w h => List.mem_cons_of_mem _ (gF_2_in h)) hown hM.1 hP 0 rfl rfl 1 (by decide) (hts _ (List.mem_cons_of_mem _ mw1008)) (fun _ h9 => h9) rfl dX3_yearUnits_35 ?_
      refine lv_iload_n hx hb dX3_yearUnits_38 rfl (lv_at hl 1 rfl) ?_
      refine kz_iald (v := σ 2 p1) hx hb hM.1 hP 2 0 rfl rfl (by omega) (by decide) rfl dX3_yearUnits_39 ?_
      refine kz_i2l hx hb (by first | omega | (have := usize_rng uu; first | omega | (have := yus_e (u := uu) (by omega); have := yus_rng uu; first | omega | (have := kyu_rng (u := uu) (b := bb) (by omega) rmm; omega)))) dX3_yearUnits_40 ?_
      refine va_gets (v := .ref (k 4)) hx hb hM.2.1.2.2.2.2.2.2.2.1 (kSN hS hAN) hown (hts _ (List.mem_cons_of_mem _ mw1091)) (fun _ h9 => h9) dX3_yearUnits_41 ?_
      refine lv_iload_n hx hb dX3_yearUnits_44 rfl (lv_at hl 2 rfl) ?_
      refine kz_ti (v := usize uu) hx hb hM.2.1.2.2.2.2.2.2.2.2.1 (kSN hS hAN) (by first | omega | (have := usize_rng uu; first | omega | (have := yus_e (u := uu) (by omega); have := yus_rng uu; first | omega | (have := kyu_rng (u := uu) (b := bb) (by omega) rmm; omega)))) (by decide) (by unfold usize; (repeat' split) <;> simp_all <;> omega) dX3_yearUnits_45 ?_
      refine lv_bipush (v := iZ 12) hx hb dX3_yearUnits_46 rfl ?_
      refine kz_idiv hx hb (by first | omega | (have := usize_rng uu; first | omega | (have := yus_e (u := uu) (by omega); have := yus_rng uu; first | omega | (have := kyu_rng (u := uu) (b := bb) (by omega) rmm; omega)))) (by omega) dX3_yearUnits_48 ?_
      refine kz_i2l hx hb (by first | omega | (have := usize_rng uu; first | omega | (have := yus_e (u := uu) (by omega); have := yus_rng uu; first | omega | (have := kyu_rng (u := uu) (b := bb) (by omega) rmm; omega)))) dX3_yearUnits_49 ?_
      refine lv_iload_n hx hb dX3_yearUnits_50 rfl (lv_at hl 3 rfl) ?_
      refine kz_i2l hx hb (by first | omega | (have := usize_rng uu; first | omega | (have := yus_e (u := uu) (by omega); have := yus_rng uu; first | omega | (have := kyu_rng (u := uu) (b := bb) (by omega) rmm; omega)))) dX3_yearUnits_51 ?_
      refine lv_iload hx hb dX3_yearUnits_52 (lv_at hl 4 rfl) ?_
      refine kc0 (fun _ q => q) (va_runS (As := [.long (lZ (mm)), .int (iZ (bZ (bb)))]) (rest := [.long (lZ ((tq (usize uu) 12))), .long (lZ ((σ 2 p1))), .int (iZ ((p1 : Nat) : Int)), .ref m0]) ⟨hx, hb, hml, hown, hts⟩ (c_X3_signed l _ (mm) (bb)) (va_cwS 2 hts (kg_S mw1073 mw1074 mw47 rfl mw1075) rfl rfl rfl hdS_X3_signed ⟨Nat.le_of_ble_eq_true rfl, Nat.le_of_ble_eq_true rfl⟩) ⟨fun a U g mk q => q, fun U hU hW => ⟨rfl, hU⟩⟩ rfl rfl hl.1 rfl (lv_room (Nat.le_of_ble_eq_true rfl)) dX3_yearUnits_54 ⟨Nat.le_of_ble_eq_true rfl, Nat.le_of_ble_eq_true rfl⟩) ?_
      refine kz_lmul hx hb dX3_yearUnits_57 ?_
      refine kz_ladd hx hb dX3_yearUnits_58 ?_
      refine kc2 (va_runV (As := [.int (iZ ((p1 : Nat) : Int)), .long (lZ (((σ 2 p1)) + (((tq (usize uu) 12)) * (sgn ((mm)) ((bb))))))]) (rest := []) ⟨hx, hb, hml, hown, hts⟩ (c_X3_putYear l dC dI dA k m0 (r0) (σ) (0) _ (va_Pl hP) hr hOK p1 ((((σ 2 p1)) + (((tq (usize uu) 12)) * (sgn ((mm)) ((bb)))))) hp1 (by first | omega | (have := usize_rng uu; first | omega | (have := yus_e (u := uu) (by omega); have := yus_rng uu; first | omega | (have := kyu_rng (u := uu) (b := bb) (by omega) rmm; omega))))) (cwV 2 hts (kg_V mw1148 mw1149 mw31 mw47 rfl mw1150) rfl rfl rfl hdV_X3_putYear ⟨Nat.le_of_ble_eq_true rfl, Nat.le_of_ble_eq_true rfl⟩) ⟨fun a U g mk q => ⟨q.1, q.2.1, kM_call q.2.2⟩, va_recv hM.1 hP (ci := 6) (q0 := 0) rfl rfl, fun U hU hW => ⟨rfl, hU, kM_kept hM hS hAN hU hW⟩⟩ rfl rfl hl.1 rfl (lv_room (Nat.le_of_ble_eq_true rfl)) dX3_yearUnits_59 ⟨Nat.le_of_ble_eq_true rfl, Nat.le_of_ble_eq_true rfl⟩) hS (fun a _ h => kAy_tr hrA hS.1 a h) (fun a h => kAy_tr hrA hS.1 a h) (fun H locs hP9 hz9 hk9 hS => ?_)
      have hP : va_P (dC, dI) vwCl (kY dA m0 r0 (putYs σ p1 (((((σ 2 p1)) + (((tq (usize uu) 12)) * (sgn ((mm)) ((bb)))))))) (0) ++ ([] : va_W)) _ := hP9
      have hD : va_D (kAy m0 r0 s.heap.size) (kY dA m0 r0 (putYs σ p1 (((((σ 2 p1)) + (((tq (usize uu) 12)) * (sgn ((mm)) ((bb)))))))) (0) ++ ([] : va_W)) := by rw [← kap]; exact kYD_A hr hrA
      refine W.widen (k := 0) (n := 0) (Nat.le_of_ble_eq_true rfl) (Nat.le_of_ble_eq_true rfl) ?_
      exact W.iret (v := iZ (putYr (((((σ 2 p1)) + (((tq (usize uu) 12)) * (sgn ((mm)) ((bb))))))))) hx hb hr9 (fun t ht hW => ⟨⟨congrArg (fun z : Int => Outcome.returned (some (Value.int (iZ z)))) (show (putYr (((((σ 2 p1)) + (((tq (usize uu) 12)) * (sgn ((mm)) ((bb)))))))) = (if ex2 (!inb ((p1 : Nat) : Int) 0 3) (!inb uu 1 4) = 0 then (putYr (σ 2 p1 + sgn (mm * yus uu) bb)) else 0) from by rw [if_pos hZ]; rw [kyu_e (by omega)]), gY_cast ⟨r0, hr, hrA, by rw [ht]; exact va_Pl hP⟩ (show (putYs σ p1 (((((σ 2 p1)) + (((tq (usize uu) 12)) * (sgn ((mm)) ((bb)))))))) = (if ex2 (!inb ((p1 : Nat) : Int) 0 3) (!inb uu 1 4) = 0 then (putYs σ p1 (σ 2 p1 + sgn (mm * yus uu) bb)) else σ) from by rw [if_pos hZ]; rw [kyu_e (by omega)]) (show (0) = ex2 (!inb ((p1 : Nat) : Int) 0 3) (!inb uu 1 4) from hZ.symm)⟩, hS.F ht⟩) hS.2.2 dX3_yearUnits_62
    · have hX : ex2 (!inb z1 0 3) (!inb uu 1 4) = ex2 (!inb ((z1)) 0 3) false := by first | rfl | simp only [c_1, Bool.true_or, Bool.or_true, Bool.false_or, Bool.or_false, Bool.not_true, Bool.not_false]
      have hN : ¬ ex2 (!inb z1 0 3) (!inb uu 1 4) = 0 := kf_ne hX c_2
      refine lv_iconst (v := iZ 0) hx hb dX3_yearUnits_28 rfl ?_
      refine lv_goto (tgt := 62) hx hb dX3_yearUnits_29 (by decide) ?_
      refine W.widen (k := 0) (n := 0) (Nat.le_of_ble_eq_true rfl) (Nat.le_of_ble_eq_true rfl) ?_
      exact W.iret (v := iZ 0) hx hb hr9 (fun t ht hW => ⟨⟨congrArg (fun z : Int => Outcome.returned (some (Value.int (iZ z)))) (show 0 = (if ex2 (!inb z1 0 3) (!inb uu 1 4) = 0 then (putYr (σ 2 (z1.toNat) + sgn (mm * yus uu) bb)) else 0) from by rw [if_neg hN]), gY_cast ⟨r0, hr, hrA, by rw [ht]; exact va_Pl hP⟩ (show (σ) = (if ex2 (!inb z1 0 3) (!inb uu 1 4) = 0 then (putYs σ (z1.toNat) (σ 2 (z1.toNat) + sgn (mm * yus uu) bb)) else σ) from by rw [if_neg hN]) (show (ex2 ((!inb ((z1)) 0 3)) false) = ex2 (!inb z1 0 3) (!inb uu 1 4) from hX.symm)⟩, hS.F ht⟩) hS.2.2 dX3_yearUnits_62
  · refine lv_iconst (v := iZ 1) hx hb dX3_yearUnits_17 rfl ?_
    refine lv_goto (tgt := 22) hx hb dX3_yearUnits_18 (by decide) ?_
    refine kc2 (va_runV (As := [.int (iZ (bZ (!inb ((z1)) 0 3))), .int (iZ (bZ true))]) (rest := []) ⟨hx, hb, hml, hown, hts⟩ (c_X3_fails l dC dI dA k m0 (r0) (σ) (th) _ (va_Pl hP) hr hOK (!inb ((z1)) 0 3) true ) (cwV 2 hts (kg_V mw1037 mw1038 mw27 mw47 rfl mw1039) rfl rfl rfl hdV_X3_fails ⟨Nat.le_of_ble_eq_true rfl, Nat.le_of_ble_eq_true rfl⟩) ⟨fun a U g mk q => ⟨q.1, q.2.1, kM_call q.2.2⟩, va_recv hM.1 hP (ci := 6) (q0 := 0) rfl rfl, fun U hU hW => ⟨rfl, hU, kM_kept hM hS hAN hU hW⟩⟩ rfl rfl hl.1 rfl (lv_room (Nat.le_of_ble_eq_true rfl)) dX3_yearUnits_22 ⟨Nat.le_of_ble_eq_true rfl, Nat.le_of_ble_eq_true rfl⟩) hS (fun a _ h => kAy_tr hrA hS.1 a h) (fun a h => kAy_tr hrA hS.1 a h) (fun H locs hP9 hz9 hk9 hS => ?_)
    have hP : va_P (dC, dI) vwCl (kY dA m0 r0 σ (ex2 ((!inb ((z1)) 0 3)) true) ++ ([] : va_W)) _ := hP9
    have hD : va_D (kAy m0 r0 s.heap.size) (kY dA m0 r0 σ (ex2 ((!inb ((z1)) 0 3)) true) ++ ([] : va_W)) := by rw [← kap]; exact kYD_A hr hrA
    refine kz_ifb_eq (tgt := 32) hx hb  dX3_yearUnits_25 (by decide) (fun c_3 => absurd (kf_f c_3).2 (by decide)) (fun c_3 => ?_)
    have hX : ex2 (!inb z1 0 3) (!inb uu 1 4) = ex2 (!inb ((z1)) 0 3) true := by first | rfl | simp only [c_1, Bool.true_or, Bool.or_true, Bool.false_or, Bool.or_false, Bool.not_true, Bool.not_false]
    have hN : ¬ ex2 (!inb z1 0 3) (!inb uu 1 4) = 0 := kf_ne hX c_3
    refine lv_iconst (v := iZ 0) hx hb dX3_yearUnits_28 rfl ?_
    refine lv_goto (tgt := 62) hx hb dX3_yearUnits_29 (by decide) ?_
    refine W.widen (k := 0) (n := 0) (Nat.le_of_ble_eq_true rfl) (Nat.le_of_ble_eq_true rfl) ?_
    exact W.iret (v := iZ 0) hx hb hr9 (fun t ht hW => ⟨⟨congrArg (fun z : Int => Outcome.returned (some (Value.int (iZ z)))) (show 0 = (if ex2 (!inb z1 0 3) (!inb uu 1 4) = 0 then (putYr (σ 2 (z1.toNat) + sgn (mm * yus uu) bb)) else 0) from by rw [if_neg hN]), gY_cast ⟨r0, hr, hrA, by rw [ht]; exact va_Pl hP⟩ (show (σ) = (if ex2 (!inb z1 0 3) (!inb uu 1 4) = 0 then (putYs σ (z1.toNat) (σ 2 (z1.toNat) + sgn (mm * yus uu) bb)) else σ) from by rw [if_neg hN]) (show (ex2 ((!inb ((z1)) 0 3)) true) = ex2 (!inb z1 0 3) (!inb uu 1 4) from hX.symm)⟩, hS.F ht⟩) hS.2.2 dX3_yearUnits_62

abbrev ww_X3_yearOf : List Cond := .code yX3_yearOf cX3_yearOf 4 (some .int) :: gT
set_option maxHeartbeats 4000000 in
set_option maxRecDepth 100000 in
theorem c_X3_yearOf (l : Launch) (dC : Nat → ClassId) (dI : Nat → Nat → Nat) (dA : Nat → ClassId) (k : Nat → Nat) (m0 : Nat) (r0 : Nat → Nat → Nat) (σ : Nat → Nat → Int) (th : Int) (H0 : Heap) (hP : va_P (dC, dI) vwCl (kY dA m0 r0 σ th) H0) (hr : kRI m0 r0 k) (hOK : kOK σ) (z1 : Int) (bb : Bool) (z2 : Int) (rz1 : -2147483648 ≤ z1 ∧ z1 < 2147483648) (rz2 : -2147483648 ≤ z2 ∧ z2 < 2147483648) : Met l yX3_yearOf ww_X3_yearOf ({ frames := 4, cells := 0, slots := 0, locals := 87 }) (va_Pc [.ref m0, .int (iZ z1), .int (iZ (bZ (bb))), .int (iZ z2)] (fun U => U.heap = H0 ∧ kM dC dI dA k U)) (kQ2 (some (.int (iZ (if ex2 (!inb z1 0 3 || !inb z2 0 3) (false) = 0 then (ylen (if bb = true then σ 5 (z2.toNat) else σ 0 (z2.toNat))) else 0)))) (gY dC dI dA k m0 r0 H0.size (if ex2 (!inb z1 0 3 || !inb z2 0 3) (false) = 0 then (sU σ 2 (z1.toNat) (if bb = true then σ 5 (z2.toNat) else σ 0 (z2.toNat))) else σ) (ex2 (!inb z1 0 3 || !inb z2 0 3) (false))) (kAy m0 r0 H0.size)) 0 0 (kAy m0 r0 H0.size) := by
  refine Met.ofW (cc := cX3_yearOf) (maxL := 4) (ret := (some .int)) (by decide) rfl ?_
  intro p e s m args below meth c s₁ B hml hv
  obtain ⟨rfl, hH, hM⟩ := hv
  subst hH
  have hr0 := hr
  have hAN : ∀ a, kAy m0 r0 s.heap.size a → k 0 ≤ a := fun a h => kAy_N hr0 hM.2.1.1 a h
  have hrA : ∀ i : Nat, i < 17 → kAy m0 r0 s.heap.size (kR m0 r0 i) := fun i hi => Or.inl ⟨i, hi, rfl⟩
  have hD : va_D (kAy m0 r0 s.heap.size) (kY dA m0 r0 σ (th) ++ ([] : va_W)) := by rw [← kap]; exact kYD_A hr hrA
  have hP : va_P (dC, dI) vwCl (kY dA m0 r0 σ (th) ++ ([] : va_W)) s.heap := hP
  have hS : va_S (kAy m0 r0 s.heap.size) s.heap s.heap [] := va_S.rf
  have hx := B.exec
  have hb := B.bytes
  have hr9 := B.returns
  have hts := atoms_spec (ws := ww_X3_yearOf) B.pre
  have hown : s.vm.findClass RX3 = some m.cls := findClass_of_methodNamed B.named
  have hlocks := B.notSynchronized
  have hl := lv_entry ([.ref m0, .int (iZ z1), .int (iZ (bZ (bb))), .int (iZ z2)]) (n := 4) (Nat.le_of_ble_eq_true rfl)
  rw [lg_entry_eq]
  generalize (lg_sl ([.ref m0, .int (iZ z1), .int (iZ (bZ (bb))), .int (iZ z2)]) ++ List.replicate (4 - (lg_sl ([.ref m0, .int (iZ z1), .int (iZ (bZ (bb))), .int (iZ z2)])).length) Slot.unset).toArray = ls at hl ⊢
  have hl : lv_has ls 4 [(0, .ref m0), (1, .int (iZ z1)), (2, .int (iZ (bZ (bb)))), (3, .int (iZ z2))] := hl
  refine lv_aload_n hx hb dX3_yearOf_0 rfl (lv_at hl 0 rfl) ?_
  refine lv_iload_n hx hb dX3_yearOf_1 rfl (lv_at hl 1 rfl) ?_
  refine kc0 (fun _ q => q) (va_runS (As := [.int (iZ z1)]) (rest := [.ref m0]) ⟨hx, hb, hml, hown, hts⟩ (c_X3_isNo l _ (z1) (by first | omega | (unfold sgn; (try split) <;> omega))) (va_cwS 1 hts (kg_S mw1021 mw1022 mw47 rfl mw1023) rfl rfl rfl hdS_X3_isNo ⟨Nat.le_of_ble_eq_true rfl, Nat.le_of_ble_eq_true rfl⟩) ⟨fun a U g mk q => q, fun U hU hW => ⟨rfl, hU⟩⟩ rfl rfl hl.1 rfl (lv_room (Nat.le_of_ble_eq_true rfl)) dX3_yearOf_2 ⟨Nat.le_of_ble_eq_true rfl, Nat.le_of_ble_eq_true rfl⟩) ?_
  refine kz_ifb_ne (tgt := 15) hx hb  dX3_yearOf_5 (by decide) (fun c_1 => ?_) (fun c_1 => ?_)
  · refine lv_iconst (v := iZ 1) hx hb dX3_yearOf_15 rfl ?_
    refine lv_goto (tgt := 20) hx hb dX3_yearOf_16 (by decide) ?_
    refine lv_iconst (v := iZ 0) hx hb dX3_yearOf_20 rfl ?_
    refine kc2 (va_runV (As := [.int (iZ (bZ true)), .int (iZ (bZ false))]) (rest := []) ⟨hx, hb, hml, hown, hts⟩ (c_X3_fails l dC dI dA k m0 (r0) (σ) (th) _ (va_Pl hP) hr hOK true false ) (cwV 2 hts (kg_V mw1037 mw1038 mw27 mw47 rfl mw1039) rfl rfl rfl hdV_X3_fails ⟨Nat.le_of_ble_eq_true rfl, Nat.le_of_ble_eq_true rfl⟩) ⟨fun a U g mk q => ⟨q.1, q.2.1, kM_call q.2.2⟩, va_recv hM.1 hP (ci := 6) (q0 := 0) rfl rfl, fun U hU hW => ⟨rfl, hU, kM_kept hM hS hAN hU hW⟩⟩ rfl rfl hl.1 rfl (lv_room (Nat.le_of_ble_eq_true rfl)) dX3_yearOf_21 ⟨Nat.le_of_ble_eq_true rfl, Nat.le_of_ble_eq_true rfl⟩) hS (fun a _ h => kAy_tr hrA hS.1 a h) (fun a h => kAy_tr hrA hS.1 a h) (fun H locs hP9 hz9 hk9 hS => ?_)
    have hP : va_P (dC, dI) vwCl (kY dA m0 r0 σ (ex2 true false) ++ ([] : va_W)) _ := hP9
    have hD : va_D (kAy m0 r0 s.heap.size) (kY dA m0 r0 σ (ex2 true false) ++ ([] : va_W)) := by rw [← kap]; exact kYD_A hr hrA
    refine kz_ifb_eq (tgt := 31) hx hb  dX3_yearOf_24 (by decide) (fun c_2 => absurd (kf_f c_2).1 (by decide)) (fun c_2 => ?_)
    have hX : ex2 (!inb z1 0 3 || !inb z2 0 3) (false) = ex2 true false := by first | rfl | simp only [c_1, Bool.true_or, Bool.or_true, Bool.false_or, Bool.or_false, Bool.not_true, Bool.not_false]
    have hN : ¬ ex2 (!inb z1 0 3 || !inb z2 0 3) (false) = 0 := kf_ne hX c_2
    refine lv_iconst (v := iZ 0) hx hb dX3_yearOf_27 rfl ?_
    refine lv_goto (tgt := 61) hx hb dX3_yearOf_28 (by decide) ?_
    refine W.widen (k := 0) (n := 0) (Nat.le_of_ble_eq_true rfl) (Nat.le_of_ble_eq_true rfl) ?_
    exact W.iret (v := iZ 0) hx hb hr9 (fun t ht hW => ⟨⟨congrArg (fun z : Int => Outcome.returned (some (Value.int (iZ z)))) (show 0 = (if ex2 (!inb z1 0 3 || !inb z2 0 3) (false) = 0 then (ylen (if bb = true then σ 5 (z2.toNat) else σ 0 (z2.toNat))) else 0) from by rw [if_neg hN]), gY_cast ⟨r0, hr, hrA, by rw [ht]; exact va_Pl hP⟩ (show (σ) = (if ex2 (!inb z1 0 3 || !inb z2 0 3) (false) = 0 then (sU σ 2 (z1.toNat) (if bb = true then σ 5 (z2.toNat) else σ 0 (z2.toNat))) else σ) from by rw [if_neg hN]) (show (ex2 true false) = ex2 (!inb z1 0 3 || !inb z2 0 3) (false) from hX.symm)⟩, hS.F ht⟩) hS.2.2 dX3_yearOf_61
  · refine lv_iload_n hx hb dX3_yearOf_8 rfl (lv_at hl 3 rfl) ?_
    refine kc0 (fun _ q => q) (va_runS (As := [.int (iZ z2)]) (rest := [.ref m0]) ⟨hx, hb, hml, hown, hts⟩ (c_X3_isNo l _ (z2) (by first | omega | (unfold sgn; (try split) <;> omega))) (va_cwS 1 hts (kg_S mw1021 mw1022 mw47 rfl mw1023) rfl rfl rfl hdS_X3_isNo ⟨Nat.le_of_ble_eq_true rfl, Nat.le_of_ble_eq_true rfl⟩) ⟨fun a U g mk q => q, fun U hU hW => ⟨rfl, hU⟩⟩ rfl rfl hl.1 rfl (lv_room (Nat.le_of_ble_eq_true rfl)) dX3_yearOf_9 ⟨Nat.le_of_ble_eq_true rfl, Nat.le_of_ble_eq_true rfl⟩) ?_
    refine kz_ifb_eq (tgt := 19) hx hb  dX3_yearOf_12 (by decide) (fun c_3 => ?_) (fun c_3 => ?_)
    · refine lv_iconst (v := iZ 0) hx hb dX3_yearOf_19 rfl ?_
      refine lv_iconst (v := iZ 0) hx hb dX3_yearOf_20 rfl ?_
      refine kc2 (va_runV (As := [.int (iZ (bZ false)), .int (iZ (bZ false))]) (rest := []) ⟨hx, hb, hml, hown, hts⟩ (c_X3_fails l dC dI dA k m0 (r0) (σ) (th) _ (va_Pl hP) hr hOK false false ) (cwV 2 hts (kg_V mw1037 mw1038 mw27 mw47 rfl mw1039) rfl rfl rfl hdV_X3_fails ⟨Nat.le_of_ble_eq_true rfl, Nat.le_of_ble_eq_true rfl⟩) ⟨fun a U g mk q => ⟨q.1, q.2.1, kM_call q.2.2⟩, va_recv hM.1 hP (ci := 6) (q0 := 0) rfl rfl, fun U hU hW => ⟨rfl, hU, kM_kept hM hS hAN hU hW⟩⟩ rfl rfl hl.1 rfl (lv_room (Nat.le_of_ble_eq_true rfl)) dX3_yearOf_21 ⟨Nat.le_of_ble_eq_true rfl, Nat.le_of_ble_eq_true rfl⟩) hS (fun a _ h => kAy_tr hrA hS.1 a h) (fun a h => kAy_tr hrA hS.1 a h) (fun H locs hP9 hz9 hk9 hS => ?_)
      have hP : va_P (dC, dI) vwCl (kY dA m0 r0 σ (ex2 false false) ++ ([] : va_W)) _ := hP9
      have hD : va_D (kAy m0 r0 s.heap.size) (kY dA m0 r0 σ (ex2 false false) ++ ([] : va_W)) := by rw [← kap]; exact kYD_A hr hrA
      refine kz_ifb_eq (tgt := 31) hx hb  dX3_yearOf_24 (by decide) (fun c_4 => ?_) (fun c_4 => absurd (show ex2 false false = 0 from rfl) (kf_t c_4))
      have hX : ex2 (!inb z1 0 3 || !inb z2 0 3) (false) = ex2 false false := by first | rfl | simp only [c_1, c_3, Bool.true_or, Bool.or_true, Bool.false_or, Bool.or_false, Bool.not_true, Bool.not_false]
      have hZ : ex2 (!inb z1 0 3 || !inb z2 0 3) (false) = 0 := kf_eq hX c_4
      obtain ⟨hA9, hB9⟩ := ex2_z hZ
      simp only [Bool.or_eq_false_iff, Bool.not_eq_false', Bool.not_eq_true', inb, decide_eq_true_eq, decide_eq_false_iff_not, noThing_niff] at hA9
      obtain ⟨p1, hp1, rfl⟩ : ∃ p1 : Nat, p1 < 4 ∧ z1 = (p1 : Int) := ⟨z1.toNat, by omega, by omega⟩
      have o_p1 := kOKr hOK hp1
      have l_p1 := mlen_rng (leap (σ 0 p1)) (σ 1 p1)
      have n_p1 := dnum_rng (y := σ 5 p1) (m := σ 6 p1) (d := σ 7 p1) (by omega) (by omega) (by omega)
      obtain ⟨p2, hp2, rfl⟩ : ∃ p2 : Nat, p2 < 4 ∧ z2 = (p2 : Int) := ⟨z2.toNat, by omega, by omega⟩
      have o_p2 := kOKr hOK hp2
      have l_p2 := mlen_rng (leap (σ 0 p2)) (σ 1 p2)
      have n_p2 := dnum_rng (y := σ 5 p2) (m := σ 6 p2) (d := σ 7 p2) (by omega) (by omega) (by omega)
      have hP := kY0 hP (kf_e c_4)
      have hD := kD0 hD (kf_e c_4)
      refine lv_aload_n hx hb dX3_yearOf_31 rfl (lv_at hl 0 rfl) ?_
      refine lv_iload_n hx hb dX3_yearOf_32 rfl (lv_at hl 1 rfl) ?_
      refine lv_iload_n hx hb dX3_yearOf_33 rfl (lv_at hl 2 rfl) ?_
      refine kz_ifb_eq (tgt := 49) hx hb  dX3_yearOf_34 (by decide) (fun c_5 => ?_) (fun c_5 => ?_)
      · refine lv_aload_n hx hb dX3_yearOf_49 rfl (lv_at hl 0 rfl) ?_
        refine va_get (D := (dC, dI)) (ci := 6) (v := .ref (r0 0 1)) (C := RX3) (T := TX3) (N := 6) hx hb hts (fun w h => List.mem_cons_of_mem _ (gF_2_in h)) hown hM.1 hP 0 rfl rfl 0 (by decide) (hts _ (List.mem_cons_of_mem _ mw1007)) (fun _ h9 => h9) rfl dX3_yearOf_50 ?_
        refine lv_iload_n hx hb dX3_yearOf_53 rfl (lv_at hl 3 rfl) ?_
        refine kz_aald (v := r0 1 p2) hx hb hM.1 hP 1 rfl (by omega) (by decide) rfl dX3_yearOf_54 ?_
        refine lv_iconst (v := iZ 0) hx hb dX3_yearOf_55 rfl ?_
        refine kz_iald (v := σ 0 p2) hx hb hM.1 hP (5 + p2) 0 (kY_L _ hp2) rfl (by omega) (by decide) rfl dX3_yearOf_56 ?_
        refine kz_i2l hx hb (by first | omega | (unfold sgn; (try split) <;> omega)) dX3_yearOf_57 ?_
        refine kc2 (va_runV (As := [.int (iZ ((p1 : Nat) : Int)), .long (lZ ((σ 0 p2)))]) (rest := []) ⟨hx, hb, hml, hown, hts⟩ (c_X3_putYear l dC dI dA k m0 (r0) (σ) (0) _ (va_Pl hP) hr hOK p1 (((σ 0 p2))) hp1 (by first | omega | (unfold sgn; (try split) <;> omega))) (cwV 2 hts (kg_V mw1148 mw1149 mw31 mw47 rfl mw1150) rfl rfl rfl hdV_X3_putYear ⟨Nat.le_of_ble_eq_true rfl, Nat.le_of_ble_eq_true rfl⟩) ⟨fun a U g mk q => ⟨q.1, q.2.1, kM_call q.2.2⟩, va_recv hM.1 hP (ci := 6) (q0 := 0) rfl rfl, fun U hU hW => ⟨rfl, hU, kM_kept hM hS hAN hU hW⟩⟩ rfl rfl hl.1 rfl (lv_room (Nat.le_of_ble_eq_true rfl)) dX3_yearOf_58 ⟨Nat.le_of_ble_eq_true rfl, Nat.le_of_ble_eq_true rfl⟩) hS (fun a _ h => kAy_tr hrA hS.1 a h) (fun a h => kAy_tr hrA hS.1 a h) (fun H locs hP9 hz9 hk9 hS => ?_)
        have hP : va_P (dC, dI) vwCl (kY dA m0 r0 (putYs σ p1 ((((σ 0 p2))))) (0) ++ ([] : va_W)) _ := hP9
        have hD : va_D (kAy m0 r0 s.heap.size) (kY dA m0 r0 (putYs σ p1 ((((σ 0 p2))))) (0) ++ ([] : va_W)) := by rw [← kap]; exact kYD_A hr hrA
        refine W.widen (k := 0) (n := 0) (Nat.le_of_ble_eq_true rfl) (Nat.le_of_ble_eq_true rfl) ?_
        exact W.iret (v := iZ (putYr ((((σ 0 p2)))))) hx hb hr9 (fun t ht hW => ⟨⟨congrArg (fun z : Int => Outcome.returned (some (Value.int (iZ z)))) (show (putYr ((((σ 0 p2))))) = (if ex2 (!inb ((p1 : Nat) : Int) 0 3 || !inb ((p2 : Nat) : Int) 0 3) (false) = 0 then (ylen (if bb = true then σ 5 p2 else σ 0 p2)) else 0) from by rw [if_pos hZ]; rw [putYr_in (by omega)]; simp [c_5]), gY_cast ⟨r0, hr, hrA, by rw [ht]; exact va_Pl hP⟩ (show (putYs σ p1 ((((σ 0 p2))))) = (if ex2 (!inb ((p1 : Nat) : Int) 0 3 || !inb ((p2 : Nat) : Int) 0 3) (false) = 0 then (sU σ 2 p1 (if bb = true then σ 5 p2 else σ 0 p2)) else σ) from by rw [if_pos hZ]; rw [putYs_in (by omega)]; simp [c_5]) (show (0) = ex2 (!inb ((p1 : Nat) : Int) 0 3 || !inb ((p2 : Nat) : Int) 0 3) (false) from hZ.symm)⟩, hS.F ht⟩) hS.2.2 dX3_yearOf_61
      · refine lv_aload_n hx hb dX3_yearOf_37 rfl (lv_at hl 0 rfl) ?_
        refine va_get (D := (dC, dI)) (ci := 6) (v := .ref (r0 0 4)) (C := RX3) (T := TX3) (N := 6) hx hb hts (fun w h => List.mem_cons_of_mem _ (gF_2_in h)) hown hM.1 hP 0 rfl rfl 3 (by decide) (hts _ (List.mem_cons_of_mem _ mw1010)) (fun _ h9 => h9) rfl dX3_yearOf_38 ?_
        refine lv_iload_n hx hb dX3_yearOf_41 rfl (lv_at hl 3 rfl) ?_
        refine kz_aald (v := r0 3 p2) hx hb hM.1 hP 4 rfl (by omega) (by decide) rfl dX3_yearOf_42 ?_
        refine lv_iconst (v := iZ 0) hx hb dX3_yearOf_43 rfl ?_
        refine kz_iald (v := σ 5 p2) hx hb hM.1 hP (13 + p2) 0 (kY_D _ hp2) rfl (by omega) (by decide) rfl dX3_yearOf_44 ?_
        refine kz_i2l hx hb (by first | omega | (unfold sgn; (try split) <;> omega)) dX3_yearOf_45 ?_
        refine lv_goto (tgt := 58) hx hb dX3_yearOf_46 (by decide) ?_
        refine kc2 (va_runV (As := [.int (iZ ((p1 : Nat) : Int)), .long (lZ ((σ 5 p2)))]) (rest := []) ⟨hx, hb, hml, hown, hts⟩ (c_X3_putYear l dC dI dA k m0 (r0) (σ) (0) _ (va_Pl hP) hr hOK p1 (((σ 5 p2))) hp1 (by first | omega | (unfold sgn; (try split) <;> omega))) (cwV 2 hts (kg_V mw1148 mw1149 mw31 mw47 rfl mw1150) rfl rfl rfl hdV_X3_putYear ⟨Nat.le_of_ble_eq_true rfl, Nat.le_of_ble_eq_true rfl⟩) ⟨fun a U g mk q => ⟨q.1, q.2.1, kM_call q.2.2⟩, va_recv hM.1 hP (ci := 6) (q0 := 0) rfl rfl, fun U hU hW => ⟨rfl, hU, kM_kept hM hS hAN hU hW⟩⟩ rfl rfl hl.1 rfl (lv_room (Nat.le_of_ble_eq_true rfl)) dX3_yearOf_58 ⟨Nat.le_of_ble_eq_true rfl, Nat.le_of_ble_eq_true rfl⟩) hS (fun a _ h => kAy_tr hrA hS.1 a h) (fun a h => kAy_tr hrA hS.1 a h) (fun H locs hP9 hz9 hk9 hS => ?_)
        have hP : va_P (dC, dI) vwCl (kY dA m0 r0 (putYs σ p1 ((((σ 5 p2))))) (0) ++ ([] : va_W)) _ := hP9
        have hD : va_D (kAy m0 r0 s.heap.size) (kY dA m0 r0 (putYs σ p1 ((((σ 5 p2))))) (0) ++ ([] : va_W)) := by rw [← kap]; exact kYD_A hr hrA
        refine W.widen (k := 0) (n := 0) (Nat.le_of_ble_eq_true rfl) (Nat.le_of_ble_eq_true rfl) ?_
        exact W.iret (v := iZ (putYr ((((σ 5 p2)))))) hx hb hr9 (fun t ht hW => ⟨⟨congrArg (fun z : Int => Outcome.returned (some (Value.int (iZ z)))) (show (putYr ((((σ 5 p2))))) = (if ex2 (!inb ((p1 : Nat) : Int) 0 3 || !inb ((p2 : Nat) : Int) 0 3) (false) = 0 then (ylen (if bb = true then σ 5 p2 else σ 0 p2)) else 0) from by rw [if_pos hZ]; rw [putYr_in (by omega)]; simp [c_5]), gY_cast ⟨r0, hr, hrA, by rw [ht]; exact va_Pl hP⟩ (show (putYs σ p1 ((((σ 5 p2))))) = (if ex2 (!inb ((p1 : Nat) : Int) 0 3 || !inb ((p2 : Nat) : Int) 0 3) (false) = 0 then (sU σ 2 p1 (if bb = true then σ 5 p2 else σ 0 p2)) else σ) from by rw [if_pos hZ]; rw [putYs_in (by omega)]; simp [c_5]) (show (0) = ex2 (!inb ((p1 : Nat) : Int) 0 3 || !inb ((p2 : Nat) : Int) 0 3) (false) from hZ.symm)⟩, hS.F ht⟩) hS.2.2 dX3_yearOf_61
    · refine lv_iconst (v := iZ 1) hx hb dX3_yearOf_15 rfl ?_
      refine lv_goto (tgt := 20) hx hb dX3_yearOf_16 (by decide) ?_
      refine lv_iconst (v := iZ 0) hx hb dX3_yearOf_20 rfl ?_
      refine kc2 (va_runV (As := [.int (iZ (bZ true)), .int (iZ (bZ false))]) (rest := []) ⟨hx, hb, hml, hown, hts⟩ (c_X3_fails l dC dI dA k m0 (r0) (σ) (th) _ (va_Pl hP) hr hOK true false ) (cwV 2 hts (kg_V mw1037 mw1038 mw27 mw47 rfl mw1039) rfl rfl rfl hdV_X3_fails ⟨Nat.le_of_ble_eq_true rfl, Nat.le_of_ble_eq_true rfl⟩) ⟨fun a U g mk q => ⟨q.1, q.2.1, kM_call q.2.2⟩, va_recv hM.1 hP (ci := 6) (q0 := 0) rfl rfl, fun U hU hW => ⟨rfl, hU, kM_kept hM hS hAN hU hW⟩⟩ rfl rfl hl.1 rfl (lv_room (Nat.le_of_ble_eq_true rfl)) dX3_yearOf_21 ⟨Nat.le_of_ble_eq_true rfl, Nat.le_of_ble_eq_true rfl⟩) hS (fun a _ h => kAy_tr hrA hS.1 a h) (fun a h => kAy_tr hrA hS.1 a h) (fun H locs hP9 hz9 hk9 hS => ?_)
      have hP : va_P (dC, dI) vwCl (kY dA m0 r0 σ (ex2 true false) ++ ([] : va_W)) _ := hP9
      have hD : va_D (kAy m0 r0 s.heap.size) (kY dA m0 r0 σ (ex2 true false) ++ ([] : va_W)) := by rw [← kap]; exact kYD_A hr hrA
      refine kz_ifb_eq (tgt := 31) hx hb  dX3_yearOf_24 (by decide) (fun c_6 => absurd (kf_f c_6).1 (by decide)) (fun c_6 => ?_)
      have hX : ex2 (!inb z1 0 3 || !inb z2 0 3) (false) = ex2 true false := by first | rfl | simp only [c_1, c_3, Bool.true_or, Bool.or_true, Bool.false_or, Bool.or_false, Bool.not_true, Bool.not_false]
      have hN : ¬ ex2 (!inb z1 0 3 || !inb z2 0 3) (false) = 0 := kf_ne hX c_6
      refine lv_iconst (v := iZ 0) hx hb dX3_yearOf_27 rfl ?_
      refine lv_goto (tgt := 61) hx hb dX3_yearOf_28 (by decide) ?_
      refine W.widen (k := 0) (n := 0) (Nat.le_of_ble_eq_true rfl) (Nat.le_of_ble_eq_true rfl) ?_
      exact W.iret (v := iZ 0) hx hb hr9 (fun t ht hW => ⟨⟨congrArg (fun z : Int => Outcome.returned (some (Value.int (iZ z)))) (show 0 = (if ex2 (!inb z1 0 3 || !inb z2 0 3) (false) = 0 then (ylen (if bb = true then σ 5 (z2.toNat) else σ 0 (z2.toNat))) else 0) from by rw [if_neg hN]), gY_cast ⟨r0, hr, hrA, by rw [ht]; exact va_Pl hP⟩ (show (σ) = (if ex2 (!inb z1 0 3 || !inb z2 0 3) (false) = 0 then (sU σ 2 (z1.toNat) (if bb = true then σ 5 (z2.toNat) else σ 0 (z2.toNat))) else σ) from by rw [if_neg hN]) (show (ex2 true false) = ex2 (!inb z1 0 3 || !inb z2 0 3) (false) from hX.symm)⟩, hS.F ht⟩) hS.2.2 dX3_yearOf_61

