abbrev ww_X3_knows : List Cond := .code yX3_knows cX3_knows 3 (some .boolean) :: gT
set_option maxHeartbeats 4000000 in
set_option maxRecDepth 100000 in
theorem c_X3_knows (l : Launch) (dC : Nat → ClassId) (dI : Nat → Nat → Nat) (dA : Nat → ClassId) (k : Nat → Nat) (m0 : Nat) (r0 : Nat → Nat → Nat) (σ : Nat → Nat → Int) (th : Int) (H0 : Heap) (hP : va_P (dC, dI) vwCl (kY dA m0 r0 σ th) H0) (hr : kRI m0 r0 k) (hOK : kOK σ) (kd : Int) (w0 : Int) (rkd : -2147483648 ≤ kd ∧ kd < 2147483648) (rw0 : -2147483648 ≤ w0 ∧ w0 < 2147483648) : Met l yX3_knows ww_X3_knows ({ frames := 1, cells := 0, slots := 0, locals := 25 }) (va_Pc [.ref m0, .int (iZ kd), .int (iZ w0)] (fun U => U.heap = H0 ∧ kM dC dI dA k U)) (kQ2 (some (.int (iZ (bZ (decide (ex2 (!inb kd 0 2 || !inb w0 0 12) (false) = 0) && (knw kd w0)))))) (gY dC dI dA k m0 r0 H0.size (σ) (ex2 (!inb kd 0 2 || !inb w0 0 12) (false))) (kAy m0 r0 H0.size)) 0 0 (kAy m0 r0 H0.size) := by
  refine Met.ofW (cc := cX3_knows) (maxL := 3) (ret := (some .boolean)) (by decide) rfl ?_
  intro p e s m args below meth c s₁ B hml hv
  obtain ⟨rfl, hH, hM⟩ := hv
  subst hH
  have hr0 := hr
  have hAN : ∀ a, kAy m0 r0 s.heap.size a → k 0 ≤ a := fun a h => kAy_N hr0 hM.2.1.1 a h
  have hrA : ∀ i : Nat, i < 17 → kAy m0 r0 s.heap.size (kR m0 r0 i) := fun i hi => Or.inl ⟨i, hi, rfl⟩
  have hD : va_D (kAy m0 r0 s.heap.size) (kY dA m0 r0 σ (th) ++ ([] : va_W)) := by rw [← kap]; exact kYD_A hr hrA
  have hP : va_P (dC, dI) vwCl (kY dA m0 r0 σ (th) ++ ([] : va_W)) s.heap := hP
  have hS : va_S (kAy m0 r0 s.heap.size) s.heap s.heap [] := va_S.rf
  have hx := B.exec
  have hb := B.bytes
  have hr9 := B.returns
  have hts := atoms_spec (ws := ww_X3_knows) B.pre
  have hown : s.vm.findClass RX3 = some m.cls := findClass_of_methodNamed B.named
  have hlocks := B.notSynchronized
  have hl := lv_entry ([.ref m0, .int (iZ kd), .int (iZ w0)]) (n := 3) (Nat.le_of_ble_eq_true rfl)
  rw [lg_entry_eq]
  generalize (lg_sl ([.ref m0, .int (iZ kd), .int (iZ w0)]) ++ List.replicate (3 - (lg_sl ([.ref m0, .int (iZ kd), .int (iZ w0)])).length) Slot.unset).toArray = ls at hl ⊢
  have hl : lv_has ls 3 [(0, .ref m0), (1, .int (iZ kd)), (2, .int (iZ w0))] := hl
  refine lv_aload_n hx hb dX3_knows_0 rfl (lv_at hl 0 rfl) ?_
  refine lv_iload_n hx hb dX3_knows_1 rfl (lv_at hl 1 rfl) ?_
  refine kz_i2l hx hb (by first | omega | (unfold sgn; (try split) <;> omega)) dX3_knows_2 ?_
  refine lv_lconst (v := lZ 0) hx hb dX3_knows_3 rfl ?_
  refine lv_ldc2 (v := lZ 2) hx hb hown (hts _ (List.mem_cons_of_mem _ mw1166)) dX3_knows_4 ?_
  refine kc0 (fun _ q => q) (va_runS (As := [.long (lZ (kd)), .long (lZ (0)), .long (lZ (2))]) (rest := [.ref m0]) ⟨hx, hb, hml, hown, hts⟩ (c_X3_isIn l _ (kd) (0) (2) (by first | omega | (unfold sgn; (try split) <;> omega)) (by first | omega | (unfold sgn; (try split) <;> omega)) (by first | omega | (unfold sgn; (try split) <;> omega))) (va_cwS 3 hts (kg_S mw1025 mw1026 mw47 rfl mw1027) rfl rfl rfl hdS_X3_isIn ⟨Nat.le_of_ble_eq_true rfl, Nat.le_of_ble_eq_true rfl⟩) ⟨fun a U g mk q => q, fun U hU hW => ⟨rfl, hU⟩⟩ rfl rfl hl.1 rfl (lv_room (Nat.le_of_ble_eq_true rfl)) dX3_knows_7 ⟨Nat.le_of_ble_eq_true rfl, Nat.le_of_ble_eq_true rfl⟩) ?_
  refine kz_ifb_eq (tgt := 25) hx hb  dX3_knows_10 (by decide) (fun c_1 => ?_) (fun c_1 => ?_)
  · refine lv_iconst (v := iZ 1) hx hb dX3_knows_25 rfl ?_
    refine lv_goto (tgt := 30) hx hb dX3_knows_26 (by decide) ?_
    refine lv_iconst (v := iZ 0) hx hb dX3_knows_30 rfl ?_
    refine kc2 (va_runV (As := [.int (iZ (bZ true)), .int (iZ (bZ false))]) (rest := []) ⟨hx, hb, hml, hown, hts⟩ (c_X3_fails l dC dI dA k m0 (r0) (σ) (th) _ (va_Pl hP) hr hOK true false ) (cwV 2 hts (kg_V mw1037 mw1038 mw27 mw47 rfl mw1039) rfl rfl rfl hdV_X3_fails ⟨Nat.le_of_ble_eq_true rfl, Nat.le_of_ble_eq_true rfl⟩) ⟨fun a U g mk q => ⟨q.1, q.2.1, kM_call q.2.2⟩, va_recv hM.1 hP (ci := 6) (q0 := 0) rfl rfl, fun U hU hW => ⟨rfl, hU, kM_kept hM hS hAN hU hW⟩⟩ rfl rfl hl.1 rfl (lv_room (Nat.le_of_ble_eq_true rfl)) dX3_knows_31 ⟨Nat.le_of_ble_eq_true rfl, Nat.le_of_ble_eq_true rfl⟩) hS (fun a _ h => kAy_tr hrA hS.1 a h) (fun a h => kAy_tr hrA hS.1 a h) (fun H locs hP9 hz9 hk9 hS => ?_)
    have hP : va_P (dC, dI) vwCl (kY dA m0 r0 σ (ex2 true false) ++ ([] : va_W)) _ := hP9
    have hD : va_D (kAy m0 r0 s.heap.size) (kY dA m0 r0 σ (ex2 true false) ++ ([] : va_W)) := by rw [← kap]; exact kYD_A hr hrA
    refine kz_ifb_eq (tgt := 39) hx hb  dX3_knows_34 (by decide) (fun c_2 => absurd (kf_f c_2).1 (by decide)) (fun c_2 => ?_)
    have hX : ex2 (!inb kd 0 2 || !inb w0 0 12) (false) = ex2 true false := by first | rfl | simp only [c_1, Bool.true_or, Bool.or_true, Bool.false_or, Bool.or_false, Bool.not_true, Bool.not_false]
    have hN : ¬ ex2 (!inb kd 0 2 || !inb w0 0 12) (false) = 0 := kf_ne hX c_2
    refine lv_iconst (v := iZ 0) hx hb dX3_knows_37 rfl ?_
    refine W.widen (k := 0) (n := 0) (Nat.le_of_ble_eq_true rfl) (Nat.le_of_ble_eq_true rfl) ?_
    exact W.zret (v := iZ 0) (ty := .boolean) hx hb hr9 rfl (fun t ht hW => ⟨⟨congrArg (fun z : Int => Outcome.returned (some (Value.int (iZ z)))) (show 0 = (bZ (decide (ex2 (!inb kd 0 2 || !inb w0 0 12) (false) = 0) && (knw kd w0))) from by rw [decide_eq_false hN]; rfl), gY_cast ⟨r0, hr, hrA, by rw [ht]; exact va_Pl hP⟩ (show (σ) = (σ) from rfl) (show (ex2 true false) = ex2 (!inb kd 0 2 || !inb w0 0 12) (false) from hX.symm)⟩, hS.F ht⟩) hS.2.2 dX3_knows_38
  · refine lv_iload_n hx hb dX3_knows_13 rfl (lv_at hl 2 rfl) ?_
    refine kz_i2l hx hb (by first | omega | (unfold sgn; (try split) <;> omega)) dX3_knows_14 ?_
    refine lv_lconst (v := lZ 0) hx hb dX3_knows_15 rfl ?_
    refine lv_ldc2 (v := lZ 12) hx hb hown (hts _ (List.mem_cons_of_mem _ mw1036)) dX3_knows_16 ?_
    refine kc0 (fun _ q => q) (va_runS (As := [.long (lZ (w0)), .long (lZ (0)), .long (lZ (12))]) (rest := [.ref m0]) ⟨hx, hb, hml, hown, hts⟩ (c_X3_isIn l _ (w0) (0) (12) (by first | omega | (unfold sgn; (try split) <;> omega)) (by first | omega | (unfold sgn; (try split) <;> omega)) (by first | omega | (unfold sgn; (try split) <;> omega))) (va_cwS 3 hts (kg_S mw1025 mw1026 mw47 rfl mw1027) rfl rfl rfl hdS_X3_isIn ⟨Nat.le_of_ble_eq_true rfl, Nat.le_of_ble_eq_true rfl⟩) ⟨fun a U g mk q => q, fun U hU hW => ⟨rfl, hU⟩⟩ rfl rfl hl.1 rfl (lv_room (Nat.le_of_ble_eq_true rfl)) dX3_knows_19 ⟨Nat.le_of_ble_eq_true rfl, Nat.le_of_ble_eq_true rfl⟩) ?_
    refine kz_ifb_ne (tgt := 29) hx hb  dX3_knows_22 (by decide) (fun c_3 => ?_) (fun c_3 => ?_)
    · refine lv_iconst (v := iZ 0) hx hb dX3_knows_29 rfl ?_
      refine lv_iconst (v := iZ 0) hx hb dX3_knows_30 rfl ?_
      refine kc2 (va_runV (As := [.int (iZ (bZ false)), .int (iZ (bZ false))]) (rest := []) ⟨hx, hb, hml, hown, hts⟩ (c_X3_fails l dC dI dA k m0 (r0) (σ) (th) _ (va_Pl hP) hr hOK false false ) (cwV 2 hts (kg_V mw1037 mw1038 mw27 mw47 rfl mw1039) rfl rfl rfl hdV_X3_fails ⟨Nat.le_of_ble_eq_true rfl, Nat.le_of_ble_eq_true rfl⟩) ⟨fun a U g mk q => ⟨q.1, q.2.1, kM_call q.2.2⟩, va_recv hM.1 hP (ci := 6) (q0 := 0) rfl rfl, fun U hU hW => ⟨rfl, hU, kM_kept hM hS hAN hU hW⟩⟩ rfl rfl hl.1 rfl (lv_room (Nat.le_of_ble_eq_true rfl)) dX3_knows_31 ⟨Nat.le_of_ble_eq_true rfl, Nat.le_of_ble_eq_true rfl⟩) hS (fun a _ h => kAy_tr hrA hS.1 a h) (fun a h => kAy_tr hrA hS.1 a h) (fun H locs hP9 hz9 hk9 hS => ?_)
      have hP : va_P (dC, dI) vwCl (kY dA m0 r0 σ (ex2 false false) ++ ([] : va_W)) _ := hP9
      have hD : va_D (kAy m0 r0 s.heap.size) (kY dA m0 r0 σ (ex2 false false) ++ ([] : va_W)) := by rw [← kap]; exact kYD_A hr hrA
      refine kz_ifb_eq (tgt := 39) hx hb  dX3_knows_34 (by decide) (fun c_4 => ?_) (fun c_4 => absurd (show ex2 false false = 0 from rfl) (kf_t c_4))
      have hX : ex2 (!inb kd 0 2 || !inb w0 0 12) (false) = ex2 false false := by first | rfl | simp only [c_1, c_3, Bool.true_or, Bool.or_true, Bool.false_or, Bool.or_false, Bool.not_true, Bool.not_false]
      have hZ : ex2 (!inb kd 0 2 || !inb w0 0 12) (false) = 0 := kf_eq hX c_4
      obtain ⟨hA9, hB9⟩ := ex2_z hZ
      simp only [Bool.or_eq_false_iff, Bool.not_eq_false', Bool.not_eq_true', inb, decide_eq_true_eq, decide_eq_false_iff_not, noThing_niff] at hA9
      have hP := kY0 hP (kf_e c_4)
      have hD := kD0 hD (kf_e c_4)
      refine lv_iload_n hx hb dX3_knows_39 rfl (lv_at hl 1 rfl) ?_
      refine lv_iconst (v := iZ 2) hx hb dX3_knows_40 rfl ?_
      refine kz_icmp_ne (tgt := 55) hx hb (by first | omega | (unfold sgn; (try split) <;> omega)) (by first | omega | (unfold sgn; (try split) <;> omega)) dX3_knows_41 (by decide) (fun c_5 => ?_) (fun c_5 => ?_)
      · refine lv_iload_n hx hb dX3_knows_55 rfl (lv_at hl 1 rfl) ?_
        refine kz_if_ne (tgt := 77) hx hb (by first | omega | (unfold sgn; (try split) <;> omega)) dX3_knows_56 (by decide) (fun c_6 => ?_) (fun c_6 => ?_)
        · refine lv_iload_n hx hb dX3_knows_77 rfl (lv_at hl 2 rfl) ?_
          refine kz_i2l hx hb (by first | omega | (unfold sgn; (try split) <;> omega)) dX3_knows_78 ?_
          refine lv_ldc2 (v := lZ 3) hx hb hown (hts _ (List.mem_cons_of_mem _ mw1024)) dX3_knows_79 ?_
          refine lv_ldc2 (v := lZ 5) hx hb hown (hts _ (List.mem_cons_of_mem _ mw1371)) dX3_knows_82 ?_
          refine kc0 (fun _ q => q) (va_runS (As := [.long (lZ (w0)), .long (lZ (3)), .long (lZ (5))]) (rest := []) ⟨hx, hb, hml, hown, hts⟩ (c_X3_isIn l _ (w0) (3) (5) (by first | omega | (unfold sgn; (try split) <;> omega)) (by first | omega | (unfold sgn; (try split) <;> omega)) (by first | omega | (unfold sgn; (try split) <;> omega))) (va_cwS 3 hts (kg_S mw1025 mw1026 mw47 rfl mw1027) rfl rfl rfl hdS_X3_isIn ⟨Nat.le_of_ble_eq_true rfl, Nat.le_of_ble_eq_true rfl⟩) ⟨fun a U g mk q => q, fun U hU hW => ⟨rfl, hU⟩⟩ rfl rfl hl.1 rfl (lv_room (Nat.le_of_ble_eq_true rfl)) dX3_knows_85 ⟨Nat.le_of_ble_eq_true rfl, Nat.le_of_ble_eq_true rfl⟩) ?_
          refine kz_ifb_ne (tgt := 97) hx hb  dX3_knows_88 (by decide) (fun c_7 => ?_) (fun c_7 => ?_)
          · refine lv_iconst (v := iZ 1) hx hb dX3_knows_97 rfl ?_
            refine lv_goto (tgt := 102) hx hb dX3_knows_98 (by decide) ?_
            refine W.widen (k := 0) (n := 0) (Nat.le_of_ble_eq_true rfl) (Nat.le_of_ble_eq_true rfl) ?_
            exact W.zret (v := iZ 1) (ty := .boolean) hx hb hr9 rfl (fun t ht hW => ⟨⟨congrArg (fun z : Int => Outcome.returned (some (Value.int (iZ z)))) (show 1 = (bZ (decide (ex2 (!inb kd 0 2 || !inb w0 0 12) (false) = 0) && (knw kd w0))) from by rw [decide_eq_true hZ, Bool.true_and]; (try simp only [inb, decide_eq_true_eq, decide_eq_false_iff_not] at c_1); (try simp only [inb, decide_eq_true_eq, decide_eq_false_iff_not] at c_3); (try simp only [inb, decide_eq_true_eq, decide_eq_false_iff_not] at c_7); rw [show knw kd w0 = true from by unfold knw; (repeat' split) <;> first | (apply decide_eq_true; omega) | omega]; rfl), gY_cast ⟨r0, hr, hrA, by rw [ht]; exact va_Pl hP⟩ (show (σ) = (σ) from rfl) (show (0) = ex2 (!inb kd 0 2 || !inb w0 0 12) (false) from hZ.symm)⟩, hS.F ht⟩) hS.2.2 dX3_knows_102
          · refine lv_iload_n hx hb dX3_knows_91 rfl (lv_at hl 2 rfl) ?_
            refine lv_bipush (v := iZ 7) hx hb dX3_knows_92 rfl ?_
            refine kz_icmp_le (tgt := 101) hx hb (by first | omega | (unfold sgn; (try split) <;> omega)) (by first | omega | (unfold sgn; (try split) <;> omega)) dX3_knows_94 (by decide) (fun c_8 => ?_) (fun c_8 => ?_)
            · refine lv_iconst (v := iZ 0) hx hb dX3_knows_101 rfl ?_
              refine W.widen (k := 0) (n := 0) (Nat.le_of_ble_eq_true rfl) (Nat.le_of_ble_eq_true rfl) ?_
              exact W.zret (v := iZ 0) (ty := .boolean) hx hb hr9 rfl (fun t ht hW => ⟨⟨congrArg (fun z : Int => Outcome.returned (some (Value.int (iZ z)))) (show 0 = (bZ (decide (ex2 (!inb kd 0 2 || !inb w0 0 12) (false) = 0) && (knw kd w0))) from by rw [decide_eq_true hZ, Bool.true_and]; (try simp only [inb, decide_eq_true_eq, decide_eq_false_iff_not] at c_1); (try simp only [inb, decide_eq_true_eq, decide_eq_false_iff_not] at c_3); (try simp only [inb, decide_eq_true_eq, decide_eq_false_iff_not] at c_7); rw [show knw kd w0 = false from by unfold knw; (repeat' split) <;> first | (apply decide_eq_false; omega) | omega]; rfl), gY_cast ⟨r0, hr, hrA, by rw [ht]; exact va_Pl hP⟩ (show (σ) = (σ) from rfl) (show (0) = ex2 (!inb kd 0 2 || !inb w0 0 12) (false) from hZ.symm)⟩, hS.F ht⟩) hS.2.2 dX3_knows_102
            · refine lv_iconst (v := iZ 1) hx hb dX3_knows_97 rfl ?_
              refine lv_goto (tgt := 102) hx hb dX3_knows_98 (by decide) ?_
              refine W.widen (k := 0) (n := 0) (Nat.le_of_ble_eq_true rfl) (Nat.le_of_ble_eq_true rfl) ?_
              exact W.zret (v := iZ 1) (ty := .boolean) hx hb hr9 rfl (fun t ht hW => ⟨⟨congrArg (fun z : Int => Outcome.returned (some (Value.int (iZ z)))) (show 1 = (bZ (decide (ex2 (!inb kd 0 2 || !inb w0 0 12) (false) = 0) && (knw kd w0))) from by rw [decide_eq_true hZ, Bool.true_and]; (try simp only [inb, decide_eq_true_eq, decide_eq_false_iff_not] at c_1); (try simp only [inb, decide_eq_true_eq, decide_eq_false_iff_not] at c_3); (try simp only [inb, decide_eq_true_eq, decide_eq_false_iff_not] at c_7); rw [show knw kd w0 = true from by unfold knw; (repeat' split) <;> first | (apply decide_eq_true; omega) | omega]; rfl), gY_cast ⟨r0, hr, hrA, by rw [ht]; exact va_Pl hP⟩ (show (σ) = (σ) from rfl) (show (0) = ex2 (!inb kd 0 2 || !inb w0 0 12) (false) from hZ.symm)⟩, hS.F ht⟩) hS.2.2 dX3_knows_102
        · refine lv_iload_n hx hb dX3_knows_59 rfl (lv_at hl 2 rfl) ?_
          refine kz_if_eq (tgt := 73) hx hb (by first | omega | (unfold sgn; (try split) <;> omega)) dX3_knows_60 (by decide) (fun c_9 => ?_) (fun c_9 => ?_)
          · refine lv_iconst (v := iZ 0) hx hb dX3_knows_73 rfl ?_
            refine lv_goto (tgt := 102) hx hb dX3_knows_74 (by decide) ?_
            refine W.widen (k := 0) (n := 0) (Nat.le_of_ble_eq_true rfl) (Nat.le_of_ble_eq_true rfl) ?_
            exact W.zret (v := iZ 0) (ty := .boolean) hx hb hr9 rfl (fun t ht hW => ⟨⟨congrArg (fun z : Int => Outcome.returned (some (Value.int (iZ z)))) (show 0 = (bZ (decide (ex2 (!inb kd 0 2 || !inb w0 0 12) (false) = 0) && (knw kd w0))) from by rw [decide_eq_true hZ, Bool.true_and]; (try simp only [inb, decide_eq_true_eq, decide_eq_false_iff_not] at c_1); (try simp only [inb, decide_eq_true_eq, decide_eq_false_iff_not] at c_3); rw [show knw kd w0 = false from by unfold knw; (repeat' split) <;> first | (apply decide_eq_false; omega) | omega]; rfl), gY_cast ⟨r0, hr, hrA, by rw [ht]; exact va_Pl hP⟩ (show (σ) = (σ) from rfl) (show (0) = ex2 (!inb kd 0 2 || !inb w0 0 12) (false) from hZ.symm)⟩, hS.F ht⟩) hS.2.2 dX3_knows_102
          · refine lv_iload_n hx hb dX3_knows_63 rfl (lv_at hl 2 rfl) ?_
            refine lv_bipush (v := iZ 6) hx hb dX3_knows_64 rfl ?_
            refine kz_icmp_eq (tgt := 73) hx hb (by first | omega | (unfold sgn; (try split) <;> omega)) (by first | omega | (unfold sgn; (try split) <;> omega)) dX3_knows_66 (by decide) (fun c_10 => ?_) (fun c_10 => ?_)
            · refine lv_iconst (v := iZ 0) hx hb dX3_knows_73 rfl ?_
              refine lv_goto (tgt := 102) hx hb dX3_knows_74 (by decide) ?_
              refine W.widen (k := 0) (n := 0) (Nat.le_of_ble_eq_true rfl) (Nat.le_of_ble_eq_true rfl) ?_
              exact W.zret (v := iZ 0) (ty := .boolean) hx hb hr9 rfl (fun t ht hW => ⟨⟨congrArg (fun z : Int => Outcome.returned (some (Value.int (iZ z)))) (show 0 = (bZ (decide (ex2 (!inb kd 0 2 || !inb w0 0 12) (false) = 0) && (knw kd w0))) from by rw [decide_eq_true hZ, Bool.true_and]; (try simp only [inb, decide_eq_true_eq, decide_eq_false_iff_not] at c_1); (try simp only [inb, decide_eq_true_eq, decide_eq_false_iff_not] at c_3); rw [show knw kd w0 = false from by unfold knw; (repeat' split) <;> first | (apply decide_eq_false; omega) | omega]; rfl), gY_cast ⟨r0, hr, hrA, by rw [ht]; exact va_Pl hP⟩ (show (σ) = (σ) from rfl) (show (0) = ex2 (!inb kd 0 2 || !inb w0 0 12) (false) from hZ.symm)⟩, hS.F ht⟩) hS.2.2 dX3_knows_102
            · refine lv_iconst (v := iZ 1) hx hb dX3_knows_69 rfl ?_
              refine lv_goto (tgt := 102) hx hb dX3_knows_70 (by decide) ?_
              refine W.widen (k := 0) (n := 0) (Nat.le_of_ble_eq_true rfl) (Nat.le_of_ble_eq_true rfl) ?_
              exact W.zret (v := iZ 1) (ty := .boolean) hx hb hr9 rfl (fun t ht hW => ⟨⟨congrArg (fun z : Int => Outcome.returned (some (Value.int (iZ z)))) (show 1 = (bZ (decide (ex2 (!inb kd 0 2 || !inb w0 0 12) (false) = 0) && (knw kd w0))) from by rw [decide_eq_true hZ, Bool.true_and]; (try simp only [inb, decide_eq_true_eq, decide_eq_false_iff_not] at c_1); (try simp only [inb, decide_eq_true_eq, decide_eq_false_iff_not] at c_3); rw [show knw kd w0 = true from by unfold knw; (repeat' split) <;> first | (apply decide_eq_true; omega) | omega]; rfl), gY_cast ⟨r0, hr, hrA, by rw [ht]; exact va_Pl hP⟩ (show (σ) = (σ) from rfl) (show (0) = ex2 (!inb kd 0 2 || !inb w0 0 12) (false) from hZ.symm)⟩, hS.F ht⟩) hS.2.2 dX3_knows_102
      · refine lv_iload_n hx hb dX3_knows_44 rfl (lv_at hl 2 rfl) ?_
        refine lv_iconst (v := iZ 2) hx hb dX3_knows_45 rfl ?_
        refine kz_icmp_ge (tgt := 53) hx hb (by first | omega | (unfold sgn; (try split) <;> omega)) (by first | omega | (unfold sgn; (try split) <;> omega)) dX3_knows_46 (by decide) (fun c_11 => ?_) (fun c_11 => ?_)
        · refine lv_iconst (v := iZ 0) hx hb dX3_knows_53 rfl ?_
          refine W.widen (k := 0) (n := 0) (Nat.le_of_ble_eq_true rfl) (Nat.le_of_ble_eq_true rfl) ?_
          exact W.zret (v := iZ 0) (ty := .boolean) hx hb hr9 rfl (fun t ht hW => ⟨⟨congrArg (fun z : Int => Outcome.returned (some (Value.int (iZ z)))) (show 0 = (bZ (decide (ex2 (!inb kd 0 2 || !inb w0 0 12) (false) = 0) && (knw kd w0))) from by rw [decide_eq_true hZ, Bool.true_and]; (try simp only [inb, decide_eq_true_eq, decide_eq_false_iff_not] at c_1); (try simp only [inb, decide_eq_true_eq, decide_eq_false_iff_not] at c_3); rw [show knw kd w0 = false from by unfold knw; (repeat' split) <;> first | (apply decide_eq_false; omega) | omega]; rfl), gY_cast ⟨r0, hr, hrA, by rw [ht]; exact va_Pl hP⟩ (show (σ) = (σ) from rfl) (show (0) = ex2 (!inb kd 0 2 || !inb w0 0 12) (false) from hZ.symm)⟩, hS.F ht⟩) hS.2.2 dX3_knows_54
        · refine lv_iconst (v := iZ 1) hx hb dX3_knows_49 rfl ?_
          refine lv_goto (tgt := 54) hx hb dX3_knows_50 (by decide) ?_
          refine W.widen (k := 0) (n := 0) (Nat.le_of_ble_eq_true rfl) (Nat.le_of_ble_eq_true rfl) ?_
          exact W.zret (v := iZ 1) (ty := .boolean) hx hb hr9 rfl (fun t ht hW => ⟨⟨congrArg (fun z : Int => Outcome.returned (some (Value.int (iZ z)))) (show 1 = (bZ (decide (ex2 (!inb kd 0 2 || !inb w0 0 12) (false) = 0) && (knw kd w0))) from by rw [decide_eq_true hZ, Bool.true_and]; (try simp only [inb, decide_eq_true_eq, decide_eq_false_iff_not] at c_1); (try simp only [inb, decide_eq_true_eq, decide_eq_false_iff_not] at c_3); rw [show knw kd w0 = true from by unfold knw; (repeat' split) <;> first | (apply decide_eq_true; omega) | omega]; rfl), gY_cast ⟨r0, hr, hrA, by rw [ht]; exact va_Pl hP⟩ (show (σ) = (σ) from rfl) (show (0) = ex2 (!inb kd 0 2 || !inb w0 0 12) (false) from hZ.symm)⟩, hS.F ht⟩) hS.2.2 dX3_knows_54
    · refine lv_iconst (v := iZ 1) hx hb dX3_knows_25 rfl ?_
      refine lv_goto (tgt := 30) hx hb dX3_knows_26 (by decide) ?_
      refine lv_iconst (v := iZ 0) hx hb dX3_knows_30 rfl ?_
      refine kc2 (va_runV (As := [.int (iZ (bZ true)), .int (iZ (bZ false))]) (rest := []) ⟨hx, hb, hml, hown, hts⟩ (c_X3_fails l dC dI dA k m0 (r0) (σ) (th) _ (va_Pl hP) hr hOK true false ) (cwV 2 hts (kg_V mw1037 mw1038 mw27 mw47 rfl mw1039) rfl rfl rfl hdV_X3_fails ⟨Nat.le_of_ble_eq_true rfl, Nat.le_of_ble_eq_true rfl⟩) ⟨fun a U g mk q => ⟨q.1, q.2.1, kM_call q.2.2⟩, va_recv hM.1 hP (ci := 6) (q0 := 0) rfl rfl, fun U hU hW => ⟨rfl, hU, kM_kept hM hS hAN hU hW⟩⟩ rfl rfl hl.1 rfl (lv_room (Nat.le_of_ble_eq_true rfl)) dX3_knows_31 ⟨Nat.le_of_ble_eq_true rfl, Nat.le_of_ble_eq_true rfl⟩) hS (fun a _ h => kAy_tr hrA hS.1 a h) (fun a h => kAy_tr hrA hS.1 a h) (fun H locs hP9 hz9 hk9 hS => ?_)
      have hP : va_P (dC, dI) vwCl (kY dA m0 r0 σ (ex2 true false) ++ ([] : va_W)) _ := hP9
      have hD : va_D (kAy m0 r0 s.heap.size) (kY dA m0 r0 σ (ex2 true false) ++ ([] : va_W)) := by rw [← kap]; exact kYD_A hr hrA
      refine kz_ifb_eq (tgt := 39) hx hb  dX3_knows_34 (by decide) (fun c_12 => absurd (kf_f c_12).1 (by decide)) (fun c_12 => ?_)
      have hX : ex2 (!inb kd 0 2 || !inb w0 0 12) (false) = ex2 true false := by first | rfl | simp only [c_1, c_3, Bool.true_or, Bool.or_true, Bool.false_or, Bool.or_false, Bool.not_true, Bool.not_false]
      have hN : ¬ ex2 (!inb kd 0 2 || !inb w0 0 12) (false) = 0 := kf_ne hX c_12
      refine lv_iconst (v := iZ 0) hx hb dX3_knows_37 rfl ?_
      refine W.widen (k := 0) (n := 0) (Nat.le_of_ble_eq_true rfl) (Nat.le_of_ble_eq_true rfl) ?_
      exact W.zret (v := iZ 0) (ty := .boolean) hx hb hr9 rfl (fun t ht hW => ⟨⟨congrArg (fun z : Int => Outcome.returned (some (Value.int (iZ z)))) (show 0 = (bZ (decide (ex2 (!inb kd 0 2 || !inb w0 0 12) (false) = 0) && (knw kd w0))) from by rw [decide_eq_false hN]; rfl), gY_cast ⟨r0, hr, hrA, by rw [ht]; exact va_Pl hP⟩ (show (σ) = (σ) from rfl) (show (ex2 true false) = ex2 (!inb kd 0 2 || !inb w0 0 12) (false) from hX.symm)⟩, hS.F ht⟩) hS.2.2 dX3_knows_38

abbrev ww_X3_edge : List Cond := .code yX3_edge cX3_edge 2 (some .int) :: gT
set_option maxHeartbeats 4000000 in
set_option maxRecDepth 100000 in
theorem c_X3_edge (l : Launch) (dC : Nat → ClassId) (dI : Nat → Nat → Nat) (dA : Nat → ClassId) (k : Nat → Nat) (m0 : Nat) (r0 : Nat → Nat → Nat) (σ : Nat → Nat → Int) (th : Int) (H0 : Heap) (hP : va_P (dC, dI) vwCl (kY dA m0 r0 σ th) H0) (hr : kRI m0 r0 k) (hOK : kOK σ) (bb : Bool)  : Met l yX3_edge ww_X3_edge ({ frames := 0, cells := 0, slots := 0, locals := 0 }) (va_Pc [.ref m0, .int (iZ (bZ (bb)))] (fun U => U.heap = H0 ∧ kM dC dI dA k U)) (kQ2 (some (.int (iZ (if ex2 (false) (false) = 0 then (if bb = true then 999999999 else -999999999) else 0)))) (gY dC dI dA k m0 r0 H0.size (σ) (ex2 (false) (false))) (kAy m0 r0 H0.size)) 0 0 (kAy m0 r0 H0.size) := by
  refine Met.ofW (cc := cX3_edge) (maxL := 2) (ret := (some .int)) (by decide) rfl ?_
  intro p e s m args below meth c s₁ B hml hv
  obtain ⟨rfl, hH, hM⟩ := hv
  subst hH
  have hr0 := hr
  have hAN : ∀ a, kAy m0 r0 s.heap.size a → k 0 ≤ a := fun a h => kAy_N hr0 hM.2.1.1 a h
  have hrA : ∀ i : Nat, i < 17 → kAy m0 r0 s.heap.size (kR m0 r0 i) := fun i hi => Or.inl ⟨i, hi, rfl⟩
  have hD : va_D (kAy m0 r0 s.heap.size) (kY dA m0 r0 σ (th) ++ ([] : va_W)) := by rw [← kap]; exact kYD_A hr hrA
  have hP : va_P (dC, dI) vwCl (kY dA m0 r0 σ (th) ++ ([] : va_W)) s.heap := hP
  have hS : va_S (kAy m0 r0 s.heap.size) s.heap s.heap [] := va_S.rf
  have hx := B.exec
  have hb := B.bytes
  have hr9 := B.returns
  have hts := atoms_spec (ws := ww_X3_edge) B.pre
  have hown : s.vm.findClass RX3 = some m.cls := findClass_of_methodNamed B.named
  have hlocks := B.notSynchronized
  have hl := lv_entry ([.ref m0, .int (iZ (bZ (bb)))]) (n := 2) (Nat.le_of_ble_eq_true rfl)
  rw [lg_entry_eq]
  generalize (lg_sl ([.ref m0, .int (iZ (bZ (bb)))]) ++ List.replicate (2 - (lg_sl ([.ref m0, .int (iZ (bZ (bb)))])).length) Slot.unset).toArray = ls at hl ⊢
  have hl : lv_has ls 2 [(0, .ref m0), (1, .int (iZ (bZ (bb))))] := hl
  have hZ : ex2 (false) (false) = 0 := rfl
  refine lv_aload_n hx hb dX3_edge_0 rfl (lv_at hl 0 rfl) ?_
  refine lv_iconst (v := iZ 0) hx hb dX3_edge_1 rfl ?_
  refine va_put (D := (dC, dI)) (ci := 6) (v := .int (iZ 0)) (ty := .int) (C := RX3) (T := TX3) (N := 6) hx hb hts (fun w h => List.mem_cons_of_mem _ (gF_2_in h)) tyX3 tyX3_ok nmX3 hown hM.1 hP hD hS 0 rfl rfl 5 (by decide) (hts _ (List.mem_cons_of_mem _ mw1012)) (fun _ h9 => h9) rfl (by decide +kernel) rfl rfl (Nat.le_of_ble_eq_true rfl) dX3_edge_2 (fun H locs hP hD hS => ?_)
  have hP : va_P (dC, dI) vwCl (kY dA m0 r0 σ (0) ++ ([] : va_W)) _ := hP
  have hD : va_D (kAy m0 r0 s.heap.size) (kY dA m0 r0 σ (0) ++ ([] : va_W)) := hD
  refine lv_iload_n hx hb dX3_edge_5 rfl (lv_at hl 1 rfl) ?_
  refine kz_ifb_eq (tgt := 14) hx hb  dX3_edge_6 (by decide) (fun c_1 => ?_) (fun c_1 => ?_)
  · refine lv_ldc (v := iZ (-999999999)) hx hb hown (hts _ (List.mem_cons_of_mem _ mw1392)) dX3_edge_14 ?_
    refine W.widen (k := 0) (n := 0) (Nat.le_of_ble_eq_true rfl) (Nat.le_of_ble_eq_true rfl) ?_
    exact W.iret (v := iZ ((-999999999))) hx hb hr9 (fun t ht hW => ⟨⟨congrArg (fun z : Int => Outcome.returned (some (Value.int (iZ z)))) (show ((-999999999)) = (if ex2 (false) (false) = 0 then (if bb = true then 999999999 else -999999999) else 0) from by rw [if_pos hZ]; simp [c_1]), gY_cast ⟨r0, hr, hrA, by rw [ht]; exact va_Pl hP⟩ (show (σ) = (σ) from rfl) (show (0) = ex2 (false) (false) from hZ.symm)⟩, hS.F ht⟩) hS.2.2 dX3_edge_16
  · refine lv_ldc (v := iZ 999999999) hx hb hown (hts _ (List.mem_cons_of_mem _ mw1391)) dX3_edge_9 ?_
    refine lv_goto (tgt := 16) hx hb dX3_edge_11 (by decide) ?_
    refine W.widen (k := 0) (n := 0) (Nat.le_of_ble_eq_true rfl) (Nat.le_of_ble_eq_true rfl) ?_
    exact W.iret (v := iZ 999999999) hx hb hr9 (fun t ht hW => ⟨⟨congrArg (fun z : Int => Outcome.returned (some (Value.int (iZ z)))) (show 999999999 = (if ex2 (false) (false) = 0 then (if bb = true then 999999999 else -999999999) else 0) from by rw [if_pos hZ]; simp [c_1]), gY_cast ⟨r0, hr, hrA, by rw [ht]; exact va_Pl hP⟩ (show (σ) = (σ) from rfl) (show (0) = ex2 (false) (false) from hZ.symm)⟩, hS.F ht⟩) hS.2.2 dX3_edge_16

abbrev ww_X3_knock : List Cond := .code yX3_knock cX3_knock 1 (some .int) :: gT
set_option maxHeartbeats 4000000 in
set_option maxRecDepth 100000 in
theorem c_X3_knock (l : Launch) (dC : Nat → ClassId) (dI : Nat → Nat → Nat) (dA : Nat → ClassId) (k : Nat → Nat) (m0 : Nat) (r0 : Nat → Nat → Nat) (σ : Nat → Nat → Int) (th : Int) (H0 : Heap) (hP : va_P (dC, dI) vwCl (kY dA m0 r0 σ th) H0) (hr : kRI m0 r0 k) (hOK : kOK σ)   : Met l yX3_knock ww_X3_knock ({ frames := 0, cells := 0, slots := 0, locals := 0 }) (va_Pc [.ref m0] (fun U => U.heap = H0 ∧ kM dC dI dA k U)) (kQ2 (some (.int (iZ (if ex2 (false) (false) = 0 then (σ 8 0 + 1) else 0)))) (gY dC dI dA k m0 r0 H0.size (if ex2 (false) (false) = 0 then (sU σ 8 0 (σ 8 0 + 1)) else σ) (ex2 (false) (false))) (kAy m0 r0 H0.size)) 0 0 (kAy m0 r0 H0.size) := by
  refine Met.ofW (cc := cX3_knock) (maxL := 1) (ret := (some .int)) (by decide) rfl ?_
  intro p e s m args below meth c s₁ B hml hv
  obtain ⟨rfl, hH, hM⟩ := hv
  subst hH
  have hr0 := hr
  have hAN : ∀ a, kAy m0 r0 s.heap.size a → k 0 ≤ a := fun a h => kAy_N hr0 hM.2.1.1 a h
  have hrA : ∀ i : Nat, i < 17 → kAy m0 r0 s.heap.size (kR m0 r0 i) := fun i hi => Or.inl ⟨i, hi, rfl⟩
  have hD : va_D (kAy m0 r0 s.heap.size) (kY dA m0 r0 σ (th) ++ ([] : va_W)) := by rw [← kap]; exact kYD_A hr hrA
  have hP : va_P (dC, dI) vwCl (kY dA m0 r0 σ (th) ++ ([] : va_W)) s.heap := hP
  have hS : va_S (kAy m0 r0 s.heap.size) s.heap s.heap [] := va_S.rf
  have hx := B.exec
  have hb := B.bytes
  have hr9 := B.returns
  have hts := atoms_spec (ws := ww_X3_knock) B.pre
  have hown : s.vm.findClass RX3 = some m.cls := findClass_of_methodNamed B.named
  have hlocks := B.notSynchronized
  have hl := lv_entry ([.ref m0]) (n := 1) (Nat.le_of_ble_eq_true rfl)
  rw [lg_entry_eq]
  generalize (lg_sl ([.ref m0]) ++ List.replicate (1 - (lg_sl ([.ref m0])).length) Slot.unset).toArray = ls at hl ⊢
  have hl : lv_has ls 1 [(0, .ref m0)] := hl
  have hZ : ex2 (false) (false) = 0 := rfl
  refine lv_aload_n hx hb dX3_knock_0 rfl (lv_at hl 0 rfl) ?_
  refine lv_iconst (v := iZ 0) hx hb dX3_knock_1 rfl ?_
  refine va_put (D := (dC, dI)) (ci := 6) (v := .int (iZ 0)) (ty := .int) (C := RX3) (T := TX3) (N := 6) hx hb hts (fun w h => List.mem_cons_of_mem _ (gF_2_in h)) tyX3 tyX3_ok nmX3 hown hM.1 hP hD hS 0 rfl rfl 5 (by decide) (hts _ (List.mem_cons_of_mem _ mw1012)) (fun _ h9 => h9) rfl (by decide +kernel) rfl rfl (Nat.le_of_ble_eq_true rfl) dX3_knock_2 (fun H locs hP hD hS => ?_)
  have hP : va_P (dC, dI) vwCl (kY dA m0 r0 σ (0) ++ ([] : va_W)) _ := hP
  have hD : va_D (kAy m0 r0 s.heap.size) (kY dA m0 r0 σ (0) ++ ([] : va_W)) := hD
  refine lv_aload_n hx hb dX3_knock_5 rfl (lv_at hl 0 rfl) ?_
  refine lv_dup hx hb dX3_knock_6 rfl ?_
  refine va_get (D := (dC, dI)) (ci := 6) (v := .int (iZ (σ 8 0))) (C := RX3) (T := TX3) (N := 6) hx hb hts (fun w h => List.mem_cons_of_mem _ (gF_2_in h)) hown hM.1 hP 0 rfl rfl 4 (by decide) (hts _ (List.mem_cons_of_mem _ mw1011)) (fun _ h9 => h9) rfl dX3_knock_7 ?_
  refine lv_iconst (v := iZ 1) hx hb dX3_knock_10 rfl ?_
  refine kz_iadd hx hb dX3_knock_11 ?_
  refine va_put (D := (dC, dI)) (ci := 6) (v := .int (iZ ((σ 8 0) + 1))) (ty := .int) (C := RX3) (T := TX3) (N := 6) hx hb hts (fun w h => List.mem_cons_of_mem _ (gF_2_in h)) tyX3 tyX3_ok nmX3 hown hM.1 hP hD hS 0 rfl rfl 4 (by decide) (hts _ (List.mem_cons_of_mem _ mw1011)) (fun _ h9 => h9) rfl (by decide +kernel) rfl rfl (Nat.le_of_ble_eq_true rfl) dX3_knock_12 (fun H locs hP hD hS => ?_)
  have hP : va_P (dC, dI) vwCl (kY dA m0 r0 (sU (σ) 8 0 ((σ 8 0) + 1)) (0) ++ ([] : va_W)) _ := hP
  have hD : va_D (kAy m0 r0 s.heap.size) (kY dA m0 r0 (sU (σ) 8 0 ((σ 8 0) + 1)) (0) ++ ([] : va_W)) := hD
  refine lv_aload_n hx hb dX3_knock_15 rfl (lv_at hl 0 rfl) ?_
  refine va_get (D := (dC, dI)) (ci := 6) (v := .int (iZ ((sU (σ) 8 0 ((σ 8 0) + 1)) 8 0))) (C := RX3) (T := TX3) (N := 6) hx hb hts (fun w h => List.mem_cons_of_mem _ (gF_2_in h)) hown hM.1 hP 0 rfl rfl 4 (by decide) (hts _ (List.mem_cons_of_mem _ mw1011)) (fun _ h9 => h9) rfl dX3_knock_16 ?_
  refine W.widen (k := 0) (n := 0) (Nat.le_of_ble_eq_true rfl) (Nat.le_of_ble_eq_true rfl) ?_
  exact W.iret (v := iZ ((sU (σ) 8 0 ((σ 8 0) + 1)) 8 0)) hx hb hr9 (fun t ht hW => ⟨⟨congrArg (fun z : Int => Outcome.returned (some (Value.int (iZ z)))) (show ((sU (σ) 8 0 ((σ 8 0) + 1)) 8 0) = (if ex2 (false) (false) = 0 then (σ 8 0 + 1) else 0) from by rw [if_pos hZ]; simp [sU]), gY_cast ⟨r0, hr, hrA, by rw [ht]; exact va_Pl hP⟩ (show (sU (σ) 8 0 ((σ 8 0) + 1)) = (if ex2 (false) (false) = 0 then (sU σ 8 0 (σ 8 0 + 1)) else σ) from by rw [if_pos hZ]; done) (show (0) = ex2 (false) (false) from hZ.symm)⟩, hS.F ht⟩) hS.2.2 dX3_knock_19

abbrev ww_X3_isLeap : List Cond := .code yX3_isLeap cX3_isLeap 3 (some .boolean) :: gT
set_option maxHeartbeats 4000000 in
set_option maxRecDepth 100000 in
theorem c_X3_isLeap (l : Launch) (dC : Nat → ClassId) (dI : Nat → Nat → Nat) (dA : Nat → ClassId) (k : Nat → Nat) (m0 : Nat) (r0 : Nat → Nat → Nat) (σ : Nat → Nat → Int) (th : Int) (H0 : Heap) (hP : va_P (dC, dI) vwCl (kY dA m0 r0 σ th) H0) (hr : kRI m0 r0 k) (hOK : kOK σ) (aa : Int) (ab : Int) (raa : -2147483648 ≤ aa ∧ aa < 2147483648) (rab : -2147483648 ≤ ab ∧ ab < 2147483648) : Met l yX3_isLeap ww_X3_isLeap ({ frames := 2, cells := 0, slots := 0, locals := 43 }) (va_Pc [.ref m0, .int (iZ aa), .int (iZ ab)] (fun U => U.heap = H0 ∧ kM dC dI dA k U)) (kQ2 (some (.int (iZ (bZ (decide (ex2 (false) (false) = 0) && (leap (aa * ab))))))) (gY dC dI dA k m0 r0 H0.size (σ) (ex2 (false) (false))) (kAy m0 r0 H0.size)) 0 0 (kAy m0 r0 H0.size) := by
  refine Met.ofW (cc := cX3_isLeap) (maxL := 3) (ret := (some .boolean)) (by decide) rfl ?_
  intro p e s m args below meth c s₁ B hml hv
  obtain ⟨rfl, hH, hM⟩ := hv
  subst hH
  have hr0 := hr
  have hAN : ∀ a, kAy m0 r0 s.heap.size a → k 0 ≤ a := fun a h => kAy_N hr0 hM.2.1.1 a h
  have hrA : ∀ i : Nat, i < 17 → kAy m0 r0 s.heap.size (kR m0 r0 i) := fun i hi => Or.inl ⟨i, hi, rfl⟩
  have hD : va_D (kAy m0 r0 s.heap.size) (kY dA m0 r0 σ (th) ++ ([] : va_W)) := by rw [← kap]; exact kYD_A hr hrA
  have hP : va_P (dC, dI) vwCl (kY dA m0 r0 σ (th) ++ ([] : va_W)) s.heap := hP
  have hS : va_S (kAy m0 r0 s.heap.size) s.heap s.heap [] := va_S.rf
  have hx := B.exec
  have hb := B.bytes
  have hr9 := B.returns
  have hts := atoms_spec (ws := ww_X3_isLeap) B.pre
  have hown : s.vm.findClass RX3 = some m.cls := findClass_of_methodNamed B.named
  have hlocks := B.notSynchronized
  have hl := lv_entry ([.ref m0, .int (iZ aa), .int (iZ ab)]) (n := 3) (Nat.le_of_ble_eq_true rfl)
  rw [lg_entry_eq]
  generalize (lg_sl ([.ref m0, .int (iZ aa), .int (iZ ab)]) ++ List.replicate (3 - (lg_sl ([.ref m0, .int (iZ aa), .int (iZ ab)])).length) Slot.unset).toArray = ls at hl ⊢
  have hl : lv_has ls 3 [(0, .ref m0), (1, .int (iZ aa)), (2, .int (iZ ab))] := hl
  have hZ : ex2 (false) (false) = 0 := rfl
  refine lv_aload_n hx hb dX3_isLeap_0 rfl (lv_at hl 0 rfl) ?_
  refine lv_iconst (v := iZ 0) hx hb dX3_isLeap_1 rfl ?_
  refine va_put (D := (dC, dI)) (ci := 6) (v := .int (iZ 0)) (ty := .int) (C := RX3) (T := TX3) (N := 6) hx hb hts (fun w h => List.mem_cons_of_mem _ (gF_2_in h)) tyX3 tyX3_ok nmX3 hown hM.1 hP hD hS 0 rfl rfl 5 (by decide) (hts _ (List.mem_cons_of_mem _ mw1012)) (fun _ h9 => h9) rfl (by decide +kernel) rfl rfl (Nat.le_of_ble_eq_true rfl) dX3_isLeap_2 (fun H locs hP hD hS => ?_)
  have hP : va_P (dC, dI) vwCl (kY dA m0 r0 σ (0) ++ ([] : va_W)) _ := hP
  have hD : va_D (kAy m0 r0 s.heap.size) (kY dA m0 r0 σ (0) ++ ([] : va_W)) := hD
  refine lv_iload_n hx hb dX3_isLeap_5 rfl (lv_at hl 1 rfl) ?_
  refine kz_i2l hx hb (by first | omega | (have := kmul_rng raa rab; omega)) dX3_isLeap_6 ?_
  refine lv_iload_n hx hb dX3_isLeap_7 rfl (lv_at hl 2 rfl) ?_
  refine kz_i2l hx hb (by first | omega | (have := kmul_rng raa rab; omega)) dX3_isLeap_8 ?_
  refine kz_lmul hx hb dX3_isLeap_9 ?_
  refine kc0 (fun _ q => q) (va_runS (As := [.long (lZ (aa * ab))]) (rest := []) ⟨hx, hb, hml, hown, hts⟩ (c_X3_isLeapYear l _ ((aa * ab)) (by first | omega | (have := kmul_rng raa rab; omega))) (va_cwS 1 hts (kg_S mw1049 mw1050 mw47 rfl mw1051) rfl rfl rfl hdS_X3_isLeapYear ⟨Nat.le_of_ble_eq_true rfl, Nat.le_of_ble_eq_true rfl⟩) ⟨fun a U g mk q => q, fun U hU hW => ⟨rfl, hU⟩⟩ rfl rfl hl.1 rfl (lv_room (Nat.le_of_ble_eq_true rfl)) dX3_isLeap_10 ⟨Nat.le_of_ble_eq_true rfl, Nat.le_of_ble_eq_true rfl⟩) ?_
  refine W.widen (k := 0) (n := 0) (Nat.le_of_ble_eq_true rfl) (Nat.le_of_ble_eq_true rfl) ?_
  exact W.zret (v := iZ (bZ (leap (((aa * ab)))))) (ty := .boolean) hx hb hr9 (by cases (leap (((aa * ab)))) <;> rfl) (fun t ht hW => ⟨⟨congrArg (fun z : Int => Outcome.returned (some (Value.int (iZ z)))) (show (bZ (leap (((aa * ab))))) = (bZ (decide (ex2 (false) (false) = 0) && (leap (aa * ab)))) from by rw [decide_eq_true hZ, Bool.true_and]; done), gY_cast ⟨r0, hr, hrA, by rw [ht]; exact va_Pl hP⟩ (show (σ) = (σ) from rfl) (show (0) = ex2 (false) (false) from hZ.symm)⟩, hS.F ht⟩) hS.2.2 dX3_isLeap_13

abbrev ww_X3_isSound : List Cond := .code yX3_isSound cX3_isSound 1 (some .boolean) :: gT
set_option maxHeartbeats 4000000 in
set_option maxRecDepth 100000 in
theorem c_X3_isSound (l : Launch) (dC : Nat → ClassId) (dI : Nat → Nat → Nat) (dA : Nat → ClassId) (k : Nat → Nat) (m0 : Nat) (r0 : Nat → Nat → Nat) (σ : Nat → Nat → Int) (th : Int) (H0 : Heap) (hP : va_P (dC, dI) vwCl (kY dA m0 r0 σ th) H0) (hr : kRI m0 r0 k) (hOK : kOK σ)   : Met l yX3_isSound ww_X3_isSound ({ frames := 0, cells := 0, slots := 0, locals := 0 }) (va_Pc [.ref m0] (fun U => U.heap = H0 ∧ kM dC dI dA k U)) (kQ2 (some (.int (iZ (bZ (decide (ex2 (false) (false) = 0) && (true)))))) (gY dC dI dA k m0 r0 H0.size (σ) (ex2 (false) (false))) (kAy m0 r0 H0.size)) 0 0 (kAy m0 r0 H0.size) := by
  refine Met.ofW (cc := cX3_isSound) (maxL := 1) (ret := (some .boolean)) (by decide) rfl ?_
  intro p e s m args below meth c s₁ B hml hv
  obtain ⟨rfl, hH, hM⟩ := hv
  subst hH
  have hr0 := hr
  have hAN : ∀ a, kAy m0 r0 s.heap.size a → k 0 ≤ a := fun a h => kAy_N hr0 hM.2.1.1 a h
  have hrA : ∀ i : Nat, i < 17 → kAy m0 r0 s.heap.size (kR m0 r0 i) := fun i hi => Or.inl ⟨i, hi, rfl⟩
  have hD : va_D (kAy m0 r0 s.heap.size) (kY dA m0 r0 σ (th) ++ ([] : va_W)) := by rw [← kap]; exact kYD_A hr hrA
  have hP : va_P (dC, dI) vwCl (kY dA m0 r0 σ (th) ++ ([] : va_W)) s.heap := hP
  have hS : va_S (kAy m0 r0 s.heap.size) s.heap s.heap [] := va_S.rf
  have hx := B.exec
  have hb := B.bytes
  have hr9 := B.returns
  have hts := atoms_spec (ws := ww_X3_isSound) B.pre
  have hown : s.vm.findClass RX3 = some m.cls := findClass_of_methodNamed B.named
  have hlocks := B.notSynchronized
  have hl := lv_entry ([.ref m0]) (n := 1) (Nat.le_of_ble_eq_true rfl)
  rw [lg_entry_eq]
  generalize (lg_sl ([.ref m0]) ++ List.replicate (1 - (lg_sl ([.ref m0])).length) Slot.unset).toArray = ls at hl ⊢
  have hl : lv_has ls 1 [(0, .ref m0)] := hl
  have hZ : ex2 (false) (false) = 0 := rfl
  refine lv_aload_n hx hb dX3_isSound_0 rfl (lv_at hl 0 rfl) ?_
  refine lv_iconst (v := iZ 0) hx hb dX3_isSound_1 rfl ?_
  refine va_put (D := (dC, dI)) (ci := 6) (v := .int (iZ 0)) (ty := .int) (C := RX3) (T := TX3) (N := 6) hx hb hts (fun w h => List.mem_cons_of_mem _ (gF_2_in h)) tyX3 tyX3_ok nmX3 hown hM.1 hP hD hS 0 rfl rfl 5 (by decide) (hts _ (List.mem_cons_of_mem _ mw1012)) (fun _ h9 => h9) rfl (by decide +kernel) rfl rfl (Nat.le_of_ble_eq_true rfl) dX3_isSound_2 (fun H locs hP hD hS => ?_)
  have hP : va_P (dC, dI) vwCl (kY dA m0 r0 σ (0) ++ ([] : va_W)) _ := hP
  have hD : va_D (kAy m0 r0 s.heap.size) (kY dA m0 r0 σ (0) ++ ([] : va_W)) := hD
  refine lv_iconst (v := iZ 1) hx hb dX3_isSound_5 rfl ?_
  refine W.widen (k := 0) (n := 0) (Nat.le_of_ble_eq_true rfl) (Nat.le_of_ble_eq_true rfl) ?_
  exact W.zret (v := iZ 1) (ty := .boolean) hx hb hr9 rfl (fun t ht hW => ⟨⟨congrArg (fun z : Int => Outcome.returned (some (Value.int (iZ z)))) (show 1 = (bZ (decide (ex2 (false) (false) = 0) && (true))) from by rw [decide_eq_true hZ, Bool.true_and]; rfl), gY_cast ⟨r0, hr, hrA, by rw [ht]; exact va_Pl hP⟩ (show (σ) = (σ) from rfl) (show (0) = ex2 (false) (false) from hZ.symm)⟩, hS.F ht⟩) hS.2.2 dX3_isSound_6

