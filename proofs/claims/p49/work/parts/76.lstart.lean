theorem kArr {args : Array Value} {s : State} {ty : FieldType} (h : (Cond.arrayClass ty).before args s = true) (hno : ∀ C, ty ≠ .object C) : ∃ cA : ClassId, (ArrOfT s cA ty ∧ va_RA s cA ty) ∧ s.vm.findClass ("[" ++ ty.toString) = some cA ∧ ∃ k : Class, s.vm.classes[cA]? = some k := by
  obtain ⟨c, k, comp, h1, h2, h3⟩ := Cond.arrayClass_spec h
  refine ⟨c, ⟨fun n z => ⟨fun k h => (by cases h), k, h2, comp, h3⟩, ?_⟩, h1, k, h2⟩
  cases ty <;> first | exact h1 | exact absurd rfl (hno _)
theorem kOverI {args : Array Value} {s : State} (h : (Cond.arrayOver (.array .int)).before args s = true) : ∃ (comp c : ClassId) (k : Class), s.vm.findClass (FieldType.array .int).toString = some comp ∧ s.vm.classes[c]? = some k ∧ k.kind = .array comp (.array .int) ∧ s.vm.findClass ("[" ++ (FieldType.array .int).toString) = some c := by
  simp only [Cond.before, Cond.holds, Cond.value, beq_iff_eq] at h
  cases hc : s.vm.findClass (FieldType.array .int).toString with
  | none => simp [hc] at h
  | some comp =>
    simp only [hc, Option.bind_some, Option.bind_eq_some_iff, Option.map_eq_some_iff] at h
    obtain ⟨c, hi, k, hk, hb⟩ := h
    obtain ⟨hlt, hp, -⟩ := Array.findIdx?_eq_some_iff_getElem.mp hi
    have hkk : s.vm.classes[c] = k := (Array.getElem?_eq_some_iff.mp hk).2
    rw [hkk] at hp
    cases hkind : k.kind with
    | array component ty =>
      rw [hkind] at hb hp
      simp at hb hp
      exact ⟨comp, c, k, rfl, hk, by rw [hkind, hp, hb.1], hb.2⟩
    | _ => rw [hkind] at hb; simp at hb
theorem kArrA {args : Array Value} {s : State} (h : (Cond.arrayOver (.array .int)).before args s = true) {a0 : ClassId} (h0 : s.vm.findClass ("[" ++ FieldType.int.toString) = some a0) : ∃ (cA : ClassId) (ka : Class), (ArrOfT s cA (.array .int) ∧ va_RA s cA (.array .int)) ∧ s.vm.classes[cA]? = some ka ∧ ka.kind = .array a0 (.array .int) := by
  obtain ⟨comp, c, k, h1, h2, h3, h4⟩ := kOverI h
  have e : comp = a0 := Option.some.inj (h1.symm.trans h0)
  subst e
  exact ⟨c, k, ⟨fun n z => ⟨fun k h => (by cases h), k, h2, comp, h3⟩, h4⟩, h2, h3⟩
set_option maxRecDepth 100000 in
theorem kBad1_tbl : ∀ w ∈ kBad1, w ∈ lw_tbl := by decide +kernel
set_option maxRecDepth 100000 in
theorem kBad2_tbl : ∀ w ∈ kBad2, w ∈ lw_tbl := by decide +kernel
theorem i_C0 : ∀ w ∈ wsJ00, w ∈ lw_tbl := gF_4_lw
theorem i_C1 : ∀ w ∈ wsJ40, w ∈ lw_tbl := gF_3_lw
set_option maxRecDepth 100000 in
theorem i_C2 : ∀ w ∈ wsJx000600, w ∈ lw_tbl := by decide +kernel
set_option maxRecDepth 100000 in
theorem i_C3 : ∀ w ∈ wsJx7c7330, w ∈ lw_tbl := by decide +kernel
theorem i_C4 : ∀ w ∈ wsX10, w ∈ lw_tbl := gF_0_lw
theorem i_C5 : ∀ w ∈ wsX20, w ∈ lw_tbl := gF_1_lw
theorem i_C6 : ∀ w ∈ wsX30, w ∈ lw_tbl := gF_2_lw
set_option maxRecDepth 100000 in
theorem kelL : ∀ j : Nat, j < 12 → (flatC (Jvm.Cond.and given_1 narrow_1))[220 + j]? = some (Cond.eq (.elem (.static "MonthyearsModel" "LENGTHS" "[I") (.int (Int32.ofNat j))) (.int (iZ (mlen false ((j : Int) + 1))))) := by decide +kernel
set_option maxRecDepth 100000 in
theorem kelU : ∀ j : Nat, j < 5 → (flatC (Jvm.Cond.and given_1 narrow_1))[235 + j]? = some (Cond.eq (.elem (.static "MonthyearsModel" "UNITS" "[I") (.int (Int32.ofNat j))) (.int (iZ (usize (j : Int))))) := by decide +kernel
set_option maxRecDepth 100000 in
theorem kelO : ∀ j : Nat, j < 100 → (flatC (Jvm.Cond.and given_1 narrow_1))[14 + j]? = some (Cond.eq (.elem (.static "java/lang/Integer" "DigitOnes" "[B") (.int (Int32.ofNat j))) (.int (iZ ((48 + j % 10 : Nat) : Int)))) := by decide +kernel
set_option maxRecDepth 100000 in
theorem kelT : ∀ j : Nat, j < 100 → (flatC (Jvm.Cond.and given_1 narrow_1))[117 + j]? = some (Cond.eq (.elem (.static "java/lang/Integer" "DigitTens" "[B") (.int (Int32.ofNat j))) (.int (iZ ((48 + j / 10 : Nat) : Int)))) := by decide +kernel
set_option maxHeartbeats 4000000 in
set_option maxRecDepth 100000 in
theorem k_start {b : Nat} {s : State} (htbl : ∀ w ∈ lw_tbl, w.before #[Value.ref b] s = true) (hgv : (Jvm.Cond.and given_1 narrow_1).before #[Value.ref b] s = true) : ∃ (dC : Nat → ClassId) (dI : Nat → Nat → Nat) (dA : Nat → ClassId) (k : Nat → Nat), kMJ dC dI dA k s ∧ kL s ∧ k 0 = s.heap.size := by
  have hs := flat_of_before _ hgv
  have hg := gT_hold htbl
  have hA : ∀ a : Nat, a < s.heap.size → ¬ (fun q : Nat => s.heap.size ≤ q) a := fun a h z => absurd h (Nat.not_lt.mpr z)
  obtain ⟨c0, i0, h0⟩ := u_known (C := RJ0) (T := TJ0) (N := 4) (n := 4) htbl i_C0 (hg _ mw393)
  obtain ⟨c1, i1, h1⟩ := u_known (C := RJ4) (T := TJ4) (N := 4) (n := 4) htbl i_C1 (hg _ mw72)
  obtain ⟨c2, i2, h2⟩ := u_known (C := RJx00060) (T := TJx00060) (N := 6) (n := 6) htbl i_C2 (hg _ mw450)
  obtain ⟨c3, i3, h3⟩ := u_known (C := RJx7c733) (T := TJx7c733) (N := 6) (n := 6) htbl i_C3 (hg _ mw252)
  obtain ⟨c4, i4, h4⟩ := u_known (C := RX1) (T := TX1) (N := 8) (n := 8) htbl i_C4 (hg _ mw64)
  obtain ⟨c5, i5, h5⟩ := u_known (C := RX2) (T := TX2) (N := 2) (n := 2) htbl i_C5 (hg _ mw597)
  obtain ⟨c6, i6, h6⟩ := u_known (C := RX3) (T := TX3) (N := 6) (n := 6) htbl i_C6 (hg _ mw1001)
  obtain ⟨dC, dI, hKc⟩ : ∃ (dC : Nat → ClassId) (dI : Nat → Nat → Nat), ∀ (k : Nat) (q : vw_C), vwCl[k]? = some q → u_Kn s q.1 q.2.1 q.2.2 (dC k) (dI k) := by
    refine ⟨fun k => match k with | 0 => c0 | 1 => c1 | 2 => c2 | 3 => c3 | 4 => c4 | 5 => c5 | _ => c6, fun k => match k with | 0 => i0 | 1 => i1 | 2 => i2 | 3 => i3 | 4 => i4 | 5 => i5 | _ => i6, ?_⟩
    intro k q hq
    match k, hq with
    | 0, hq => cases hq; exact h0
    | 1, hq => cases hq; exact h1
    | 2, hq => cases hq; exact h2
    | 3, hq => cases hq; exact h3
    | 4, hq => cases hq; exact h4
    | 5, hq => cases hq; exact h5
    | 6, hq => cases hq; exact h6
    | k + 7, hq => cases hq
  obtain ⟨a0, ha0, hf0, k0, hk0⟩ := kArr (ty := .int) (hg _ mw95) (fun _ h => by cases h)
  obtain ⟨a1, ha1, -, -⟩ := kArr (ty := .long) (hg _ mw94) (fun _ h => by cases h)
  obtain ⟨a2, ha2, -, -⟩ := kArr (ty := .byte) (hg _ mw96) (fun _ h => by cases h)
  have hov : (Cond.arrayOver (.array .int)).before #[Value.ref b] s = true := (htbl _ (List.mem_of_getElem? (i := 1212) (by decide +kernel)))
  obtain ⟨a3, ka, ha3, hka, hkk⟩ := kArrA hov hf0
  obtain ⟨dA, hd0, hd1, hd2, hd3⟩ : ∃ dA : Nat → ClassId, dA 0 = a0 ∧ dA 1 = a1 ∧ dA 2 = a2 ∧ dA 3 = a3 := ⟨fun k => match k with | 0 => a0 | 1 => a1 | 2 => a2 | _ => a3, rfl, rfl, rfl, rfl⟩
  have hK : va_K (dC, dI) vwCl (kT dA) s := ⟨hKc, fun k q hq => by
    match k, hq with
    | 0, hq => cases hq; rw [hd0]; exact ha0
    | 1, hq => cases hq; rw [hd1]; exact ha1
    | 2, hq => cases hq; rw [hd2]; exact ha2
    | 3, hq => cases hq; rw [hd3]; exact ha3
    | k + 4, hq => cases hq⟩
  obtain ⟨tL, etL, htL⟩ := va_Tof (tm := .static "MonthyearsModel" "LENGTHS" "[I") (ty := .int) (N := 12) (f := fun j => .int (iZ (mlen false ((j : Int) + 1)))) (A := fun q : Nat => s.heap.size ≤ q) (by decide) (hs _ (List.mem_of_getElem? (i := 218) (by decide +kernel))) (va_eqt (z := Int32.ofNat 12) (hs _ (List.mem_of_getElem? (i := 219) (by decide +kernel)))) (fun j hj => va_eqt (hs _ (List.mem_of_getElem? (kelL j hj)))) hA
  obtain ⟨tU, etU, htU⟩ := va_Tof (tm := .static "MonthyearsModel" "UNITS" "[I") (ty := .int) (N := 5) (f := fun j => .int (iZ (usize (j : Int)))) (A := fun q : Nat => s.heap.size ≤ q) (by decide) (hs _ (List.mem_of_getElem? (i := 233) (by decide +kernel))) (va_eqt (z := Int32.ofNat 5) (hs _ (List.mem_of_getElem? (i := 234) (by decide +kernel)))) (fun j hj => va_eqt (hs _ (List.mem_of_getElem? (kelU j hj)))) hA
  obtain ⟨tO, etO, htO⟩ := va_Tof (tm := .static "java/lang/Integer" "DigitOnes" "[B") (ty := .byte) (N := 100) (f := fun j => .int (iZ ((48 + j % 10 : Nat) : Int))) (A := fun q : Nat => s.heap.size ≤ q) (by decide) (hs _ (List.mem_of_getElem? (i := 12) (by decide +kernel))) (va_eqt (z := Int32.ofNat 100) (hs _ (List.mem_of_getElem? (i := 13) (by decide +kernel)))) (fun j hj => va_eqt (hs _ (List.mem_of_getElem? (kelO j hj)))) hA
  obtain ⟨tT, etT, htT⟩ := va_Tof (tm := .static "java/lang/Integer" "DigitTens" "[B") (ty := .byte) (N := 100) (f := fun j => .int (iZ ((48 + j / 10 : Nat) : Int))) (A := fun q : Nat => s.heap.size ≤ q) (by decide) (hs _ (List.mem_of_getElem? (i := 115) (by decide +kernel))) (va_eqt (z := Int32.ofNat 100) (hs _ (List.mem_of_getElem? (i := 116) (by decide +kernel)))) (fun j hj => va_eqt (hs _ (List.mem_of_getElem? (kelT j hj)))) hA
  have zL := va_Zof (A := fun q : Nat => s.heap.size ≤ q) (C := "MonthyearsModel") (n := "LENGTHS") (d := "[I") (htbl _ (List.mem_of_getElem? (i := 1278) (by decide +kernel))) (htbl _ (List.mem_of_getElem? (i := 48) (by decide +kernel))) etL hA
  have zU := va_Zof (A := fun q : Nat => s.heap.size ≤ q) (C := "MonthyearsModel") (n := "UNITS") (d := "[I") (htbl _ (List.mem_of_getElem? (i := 1316) (by decide +kernel))) (htbl _ (List.mem_of_getElem? (i := 48) (by decide +kernel))) etU hA
  have zO := va_Zof (A := fun q : Nat => s.heap.size ≤ q) (C := "java/lang/Integer") (n := "DigitOnes") (d := "[B") (htbl _ (List.mem_of_getElem? (i := 514) (by decide +kernel))) (htbl _ (List.mem_of_getElem? (i := 63) (by decide +kernel))) etO hA
  have zT := va_Zof (A := fun q : Nat => s.heap.size ≤ q) (C := "java/lang/Integer") (n := "DigitTens") (d := "[B") (htbl _ (List.mem_of_getElem? (i := 516) (by decide +kernel))) (htbl _ (List.mem_of_getElem? (i := 63) (by decide +kernel))) etT hA
  have zC := va_Zof (A := fun q : Nat => s.heap.size ≤ q) (C := "java/lang/String") (n := "COMPACT_STRINGS") (d := "Z") (htbl _ (List.mem_of_getElem? (i := 85) (by decide +kernel))) (htbl _ (List.mem_of_getElem? (i := 46) (by decide +kernel))) (va_eqt (z := 1) (hs _ (List.mem_of_getElem? (i := 4) (by decide +kernel)))) hA
  have zF := va_Zqof (A := fun q : Nat => s.heap.size ≤ q) (C := "jdk/internal/util/Preconditions") (n := "SIOOBE_FORMATTER") (d := "Ljava/util/function/BiFunction;") (htbl _ (List.mem_of_getElem? (i := 444) (by decide +kernel))) (htbl _ (List.mem_of_getElem? (i := 61) (by decide +kernel))) (hs _ (List.mem_of_getElem? (i := 7) (by decide +kernel))) hA
  have zA := vx_Zqof (A := fun q : Nat => s.heap.size ≤ q) (C := "java/lang/Throwable") (n := "UNASSIGNED_STACK") (d := "[Ljava/lang/StackTraceElement;") (htbl _ (List.mem_of_getElem? (i := 291) (by decide +kernel))) (htbl _ (List.mem_of_getElem? (i := 50) (by decide +kernel))) (hs _ (List.mem_of_getElem? (i := 5) (by decide +kernel))) hA
  have zS := vx_Zqof (A := fun q : Nat => s.heap.size ≤ q) (C := "java/lang/Throwable") (n := "SUPPRESSED_SENTINEL") (d := "Ljava/util/List;") (htbl _ (List.mem_of_getElem? (i := 293) (by decide +kernel))) (htbl _ (List.mem_of_getElem? (i := 50) (by decide +kernel))) (hs _ (List.mem_of_getElem? (i := 6) (by decide +kernel))) hA
  obtain ⟨p1, _, _, _, ep1, -⟩ := Cond.exactly_spec (hs (.exactly (.string "Monthyears" 244) "java/lang/String") (List.mem_of_getElem? (i := 269) (by decide +kernel)))
  have rp1 : vk_R "Monthyears" 244 "a place on the shelf is 0 to 3" p1 s := vk_R.of (A := #[Value.ref b]) (htbl _ (List.mem_of_getElem? (i := 306) (by decide +kernel))) ep1
  obtain ⟨p2, _, _, _, ep2, -⟩ := Cond.exactly_spec (hs (.exactly (.string "Monthyears" 251) "java/lang/String") (List.mem_of_getElem? (i := 303) (by decide +kernel)))
  have rp2 : vk_R "Monthyears" 251 "a value is beyond what is told for it" p2 s := vk_R.of (A := #[Value.ref b]) (htbl _ (List.mem_of_getElem? (i := 344) (by decide +kernel))) ep2
  obtain ⟨adK, adV, hSS, eSS⟩ := vk_Sof (s := s) (args := #[Value.ref b]) (N := 1) (tm := fun _ => .string "MonthyearsModel" 192) (len := [0]) (byt := [[]]) (A := fun q : Nat => s.heap.size ≤ q)
    (fun i hi => by have e0 : i = 0 := by omega
                    subst e0; decide)
    (fun i _ => hs (.exactly (.string "MonthyearsModel" 192) "java/lang/String") (List.mem_of_getElem? (i := 475) (by decide +kernel)))
    (fun i _ => hs (.eq (.field (.string "MonthyearsModel" 192) "java/lang/String" "coder" "B") (.int 0)) (List.mem_of_getElem? (i := 476) (by decide +kernel)))
    (fun i _ => hs (.arrayOf (.field (.string "MonthyearsModel" 192) "java/lang/String" "value" "[B") .byte) (List.mem_of_getElem? (i := 477) (by decide +kernel)))
    (fun i hi => by have e0 : i = 0 := by omega
                    subst e0
                    exact hs (.eq (.length (.field (.string "MonthyearsModel" 192) "java/lang/String" "value" "[B")) (.int 0)) (List.mem_of_getElem? (i := 478) (by decide +kernel)))
    (fun i hi j hj => by have e0 : i = 0 := by omega
                         subst e0
                         exact absurd hj (Nat.not_lt_zero _))
    (fun i j hi hj h => absurd (show i = j by omega) h) hA
  have rp3 : vk_R "MonthyearsModel" 192 "" (adK 0) s := vk_R.of (A := #[Value.ref b]) (htbl _ (List.mem_of_getElem? (i := 1491) (by decide +kernel))) (eSS 0 (by decide))
  have hNc : va_Nc "java/lang/IllegalArgumentException" "java/lang/IndexOutOfBoundsException" s := va_Nc.of (hs (.not (.castable "java/lang/IllegalArgumentException" "java/lang/IndexOutOfBoundsException")) (List.mem_of_getElem? (i := 244) (by decide +kernel)))
  have hb1 : ∀ w ∈ kBad1, w.before #[] s = true := fun w hw => kface0 (kBad1_ok w hw) rfl (htbl w (kBad1_tbl w hw))
  have hb2 : ∀ w ∈ kBad2, w.before #[] s = true := fun w hw => kface0 (kBad2_ok w hw) rfl (htbl w (kBad2_tbl w hw))
  have hSS1 : vk_S 1 [0] [[]] (fun _ => adK 0) (fun _ => adV 0) (fun q : Nat => s.heap.size ≤ q) s s.heap := ⟨fun i hi => by
    have e0 : i = 0 := by omega
    subst e0
    exact hSS.1 0 hi, fun i j hi hj _ => by omega⟩
  refine ⟨dC, dI, dA, fun k => match k with | 0 => s.heap.size | 1 => p1 | 2 => p2 | 3 => tL | 4 => tU | 5 => tO | 6 => tT | 7 => adK 0 | _ => adV 0, ⟨⟨hK, ⟨Nat.le_refl _, rp1, rp2, zA, zS, zL, htL, zU, htU, hb1, hb2, hNc⟩, ⟨ka, k0, by rw [hd3]; exact hka, by rw [hd0]; exact hkk, by rw [hd0]; exact hk0, hov⟩⟩, ⟨zC, zO, htO, zT, htT, zF, rp3, hSS1⟩⟩, ⟨va_Nw.of rfl (htbl _ (List.mem_of_getElem? (i := 791) (by decide +kernel))), va_Nw.of rfl (htbl _ (List.mem_of_getElem? (i := 792) (by decide +kernel))), va_Nw.of rfl (htbl _ (List.mem_of_getElem? (i := 266) (by decide +kernel))), va_Nw.of rfl (htbl _ (List.mem_of_getElem? (i := 337) (by decide +kernel)))⟩, rfl⟩
abbrev ww_X2_init : List Cond := .code yX2_init cX2_init 1 none :: gT
set_option maxHeartbeats 4000000 in
set_option maxRecDepth 100000 in
theorem c_X2_init (l : Launch) (q0 : Nat) (H0 : Heap) : Met l yX2_init ww_X2_init ({ frames := 1, cells := 0, slots := 0, locals := 20 }) (va_Pc [.ref q0] (fun U => U.heap = H0)) (kQ2 none (fun H => H = H0) kN) 0 0 kN := by
  refine Met.ofW (cc := cX2_init) (maxL := 1) (ret := none) (by decide) rfl ?_
  intro p e s m args below meth c s₁ B hml hv
  obtain ⟨rfl, hH⟩ := hv
  subst hH
  have hx := B.exec
  have hb := B.bytes
  have hr9 := B.returns
  have hts := atoms_spec (ws := ww_X2_init) B.pre
  have hown : s.vm.findClass RX2 = some m.cls := findClass_of_methodNamed B.named
  have hlocks := B.notSynchronized
  have hS : va_S kN s.heap s.heap [] := va_S.rf
  have hl := lv_entry ([.ref q0]) (n := 1) (Nat.le_of_ble_eq_true rfl)
  rw [lg_entry_eq]
  generalize (lg_sl ([.ref q0]) ++ List.replicate (1 - (lg_sl ([.ref q0])).length) Slot.unset).toArray = ls at hl ⊢
  have hl : lv_has ls 1 [(0, .ref q0)] := hl
  refine lv_aload_n hx hb dX2_init_0 rfl (lv_at hl 0 rfl) ?_
  refine W.objInit hx hb hown (hts _ (List.mem_cons_of_mem _ mw600)) (hts _ (List.mem_cons_of_mem _ mw69)) (hts _ (List.mem_cons_of_mem _ mw70)) rfl (by rw [hml]; exact hl.1) rfl dX2_init_1 (Nat.le_of_ble_eq_true rfl) (Nat.le_of_ble_eq_true rfl) ?_
  exact W.vret hx hb hr9 (fun t ht hW => ⟨⟨rfl, ht⟩, hS.F ht⟩) hS.2.2 dX2_init_4
