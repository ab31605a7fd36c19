abbrev ww_X3_leafTold : List Cond := .code yX3_leafTold cX3_leafTold 6 (some .int) :: gT
set_option maxHeartbeats 4000000 in
set_option maxRecDepth 100000 in
theorem c_X3_leafTold (l : Launch) (dC : Nat → ClassId) (dI : Nat → Nat → Nat) (dA : Nat → ClassId) (k : Nat → Nat) (m0 : Nat) (r0 : Nat → Nat → Nat) (σ : Nat → Nat → Int) (th : Int) (H0 : Heap) (hP : va_P (dC, dI) vwCl (kY dA m0 r0 σ th) H0) (hr : kRI m0 r0 k) (hOK : kOK σ) (pj : Nat) (w0 : Int) (hpj : pj < 4) (h0 : 0 ≤ w0 ∧ w0 ≤ 7) : Met l yX3_leafTold ww_X3_leafTold ({ frames := 3, cells := 1, slots := 8, locals := 65 }) (va_Pc [.ref m0, .int (iZ ((pj : Nat) : Int)), .int (iZ w0)] (fun U => U.heap = H0 ∧ kM dC dI dA k U)) (kQ2 (some (.int (iZ (ofL σ pj w0)))) (fun H => va_P (dC, dI) vwCl (kY dA m0 r0 (σ) (th)) H) (kAy m0 r0 H0.size)) 1 8 (kAy m0 r0 H0.size) := by
  refine Met.ofW (cc := cX3_leafTold) (maxL := 6) (ret := (some .int)) (by decide) rfl ?_
  intro p e s m args below meth c s₁ B hml hv
  obtain ⟨rfl, hH, hM⟩ := hv
  subst hH
  have hr0 := hr
  have hAN : ∀ a, kAy m0 r0 s.heap.size a → k 0 ≤ a := fun a h => kAy_N hr0 hM.2.1.1 a h
  have hrA : ∀ i : Nat, i < 17 → kAy m0 r0 s.heap.size (kR m0 r0 i) := fun i hi => Or.inl ⟨i, hi, rfl⟩
  have hD : va_D (kAy m0 r0 s.heap.size) (kY dA m0 r0 σ (th) ++ ([] : va_W)) := by rw [← kap]; exact kYD_A hr hrA
  have hP : va_P (dC, dI) vwCl (kY dA m0 r0 σ (th) ++ ([] : va_W)) s.heap := hP
  have hS : va_S (kAy m0 r0 s.heap.size) s.heap s.heap [] := va_S.rf
  have o_pj := kOKr hOK hpj
  have hx := B.exec
  have hb := B.bytes
  have hr9 := B.returns
  have hts := atoms_spec (ws := ww_X3_leafTold) B.pre
  have hown : s.vm.findClass RX3 = some m.cls := findClass_of_methodNamed B.named
  have hlocks := B.notSynchronized
  have hl := lv_entry ([.ref m0, .int (iZ ((pj : Nat) : Int)), .int (iZ w0)]) (n := 6) (Nat.le_of_ble_eq_true rfl)
  rw [lg_entry_eq]
  generalize (lg_sl ([.ref m0, .int (iZ ((pj : Nat) : Int)), .int (iZ w0)]) ++ List.replicate (6 - (lg_sl ([.ref m0, .int (iZ ((pj : Nat) : Int)), .int (iZ w0)])).length) Slot.unset).toArray = ls at hl ⊢
  have hl : lv_has ls 6 [(0, .ref m0), (1, .int (iZ ((pj : Nat) : Int))), (2, .int (iZ w0))] := hl
  refine lv_aload_n hx hb dX3_leafTold_0 rfl (lv_at hl 0 rfl) ?_
  refine va_get (D := (dC, dI)) (ci := 6) (v := .ref (r0 0 1)) (C := RX3) (T := TX3) (N := 6) hx hb hts (fun w h => List.mem_cons_of_mem _ (gF_2_in h)) hown hM.1 hP 0 rfl rfl 0 (by decide) (hts _ (List.mem_cons_of_mem _ mw1007)) (fun _ h9 => h9) rfl dX3_leafTold_1 ?_
  refine lv_iload_n hx hb dX3_leafTold_4 rfl (lv_at hl 1 rfl) ?_
  refine kz_aald (v := r0 1 pj) hx hb hM.1 hP 1 rfl (by omega) (by decide) rfl dX3_leafTold_5 ?_
  refine lv_iconst (v := iZ 0) hx hb dX3_leafTold_6 rfl ?_
  refine kz_iald (v := σ 0 pj) hx hb hM.1 hP (5 + pj) 0 (kY_L _ hpj) rfl (by omega) (by decide) rfl dX3_leafTold_7 ?_
  refine lv_istore_n (lv' := [(3, .int (iZ (σ 0 pj))), (0, .ref m0), (1, .int (iZ ((pj : Nat) : Int))), (2, .int (iZ w0))]) hx hb dX3_leafTold_8 rfl hl (by decide) rfl (fun ls hl => ?_)
  refine lv_aload_n hx hb dX3_leafTold_9 rfl (lv_at hl 1 rfl) ?_
  refine va_get (D := (dC, dI)) (ci := 6) (v := .ref (r0 0 1)) (C := RX3) (T := TX3) (N := 6) hx hb hts (fun w h => List.mem_cons_of_mem _ (gF_2_in h)) hown hM.1 hP 0 rfl rfl 0 (by decide) (hts _ (List.mem_cons_of_mem _ mw1007)) (fun _ h9 => h9) rfl dX3_leafTold_10 ?_
  refine lv_iload_n hx hb dX3_leafTold_13 rfl (lv_at hl 2 rfl) ?_
  refine kz_aald (v := r0 1 pj) hx hb hM.1 hP 1 rfl (by omega) (by decide) rfl dX3_leafTold_14 ?_
  refine lv_iconst (v := iZ 1) hx hb dX3_leafTold_15 rfl ?_
  refine kz_iald (v := σ 1 pj) hx hb hM.1 hP (5 + pj) 0 (kY_L _ hpj) rfl (by omega) (by decide) rfl dX3_leafTold_16 ?_
  refine lv_istore (lv' := [(4, .int (iZ (σ 1 pj))), (3, .int (iZ (σ 0 pj))), (0, .ref m0), (1, .int (iZ ((pj : Nat) : Int))), (2, .int (iZ w0))]) hx hb dX3_leafTold_17 hl (by decide) rfl (fun ls hl => ?_)
  refine lv_bipush (v := iZ 8) hx hb dX3_leafTold_19 rfl ?_
  refine kz_newI (N := 8) hx hb (hts _ (List.mem_cons_of_mem _ mw95)) hM.1 hP hD hS kAy_new (by decide) (Nat.le_of_ble_eq_true rfl) (Nat.le_of_ble_eq_true rfl) dX3_leafTold_21 (fun v_1 H hP hD hS => ?_)
  have hP : va_P (dC, dI) vwCl (kY dA m0 r0 σ (th) ++ ([(v_1, .inl (dA 0, 8, .inl (fun _ => 0)))] : va_W)) _ := hP
  have hD : va_D (kAy m0 r0 s.heap.size) (kY dA m0 r0 σ (th) ++ ([(v_1, .inl (dA 0, 8, .inl (fun _ => 0)))] : va_W)) := hD
  refine lv_dup hx hb dX3_leafTold_23 rfl ?_
  refine lv_iconst (v := iZ 0) hx hb dX3_leafTold_24 rfl ?_
  refine lv_iload_n hx hb dX3_leafTold_25 rfl (lv_at hl 1 rfl) ?_
  refine kz_iast hx hb hM.1 hP hD hS 17 rfl (by omega) (by decide) dX3_leafTold_26 (fun H locs hP hD hS => ?_)
  have hP : va_P (dC, dI) vwCl (kY dA m0 r0 σ (th) ++ ([(v_1, .inl (dA 0, 8, .inl (upd (fun _ => 0) 0 (iZ (σ 0 pj)))))] : va_W)) _ := hP
  have hD : va_D (kAy m0 r0 s.heap.size) (kY dA m0 r0 σ (th) ++ ([(v_1, .inl (dA 0, 8, .inl (upd (fun _ => 0) 0 (iZ (σ 0 pj)))))] : va_W)) := hD
  refine lv_dup hx hb dX3_leafTold_27 rfl ?_
  refine lv_iconst (v := iZ 1) hx hb dX3_leafTold_28 rfl ?_
  refine lv_iload hx hb dX3_leafTold_29 (lv_at hl 0 rfl) ?_
  refine kz_iast hx hb hM.1 hP hD hS 17 rfl (by omega) (by decide) dX3_leafTold_31 (fun H locs hP hD hS => ?_)
  have hP : va_P (dC, dI) vwCl (kY dA m0 r0 σ (th) ++ ([(v_1, .inl (dA 0, 8, .inl (upd (upd (fun _ => 0) 0 (iZ (σ 0 pj))) 1 (iZ (σ 1 pj)))))] : va_W)) _ := hP
  have hD : va_D (kAy m0 r0 s.heap.size) (kY dA m0 r0 σ (th) ++ ([(v_1, .inl (dA 0, 8, .inl (upd (upd (fun _ => 0) 0 (iZ (σ 0 pj))) 1 (iZ (σ 1 pj)))))] : va_W)) := hD
  refine lv_dup hx hb dX3_leafTold_32 rfl ?_
  refine lv_iconst (v := iZ 2) hx hb dX3_leafTold_33 rfl ?_
  refine lv_iload_n hx hb dX3_leafTold_34 rfl (lv_at hl 1 rfl) ?_
  refine kz_i2l hx hb (by omega) dX3_leafTold_35 ?_
  refine lv_iload hx hb dX3_leafTold_36 (lv_at hl 0 rfl) ?_
  refine kc0 (fun _ q => q) (va_runS (As := [.long (lZ ((σ 0 pj))), .int (iZ (σ 1 pj))]) (rest := [.int (iZ 2), .ref v_1, .ref v_1]) ⟨hx, hb, hml, hown, hts⟩ (c_X3_length l dC dI dA k _ (((σ 0 pj))) ((σ 1 pj)) (by omega) (by omega)) (va_cwS 2 hts (kg_S mw1046 mw1047 mw47 rfl mw1048) rfl rfl rfl hdS_X3_length ⟨Nat.le_of_ble_eq_true rfl, Nat.le_of_ble_eq_true rfl⟩) ⟨fun a U g mk q => ⟨q.1, q.2.1, kM_call q.2.2⟩, fun U hU hW => ⟨rfl, hU, kM_kept hM hS hAN hU hW⟩⟩ rfl rfl hl.1 rfl (lv_room (Nat.le_of_ble_eq_true rfl)) dX3_leafTold_38 ⟨Nat.le_of_ble_eq_true rfl, Nat.le_of_ble_eq_true rfl⟩) ?_
  refine kz_iast hx hb hM.1 hP hD hS 17 rfl (by omega) (by decide) dX3_leafTold_41 (fun H locs hP hD hS => ?_)
  have hP : va_P (dC, dI) vwCl (kY dA m0 r0 σ (th) ++ ([(v_1, .inl (dA 0, 8, .inl (upd (upd (upd (fun _ => 0) 0 (iZ (σ 0 pj))) 1 (iZ (σ 1 pj))) 2 (iZ (mlen (leap ((((σ 0 pj))))) (((σ 1 pj))))))))] : va_W)) _ := hP
  have hD : va_D (kAy m0 r0 s.heap.size) (kY dA m0 r0 σ (th) ++ ([(v_1, .inl (dA 0, 8, .inl (upd (upd (upd (fun _ => 0) 0 (iZ (σ 0 pj))) 1 (iZ (σ 1 pj))) 2 (iZ (mlen (leap ((((σ 0 pj))))) (((σ 1 pj))))))))] : va_W)) := hD
  refine lv_dup hx hb dX3_leafTold_42 rfl ?_
  refine lv_iconst (v := iZ 3) hx hb dX3_leafTold_43 rfl ?_
  refine lv_iload_n hx hb dX3_leafTold_44 rfl (lv_at hl 1 rfl) ?_
  refine kz_i2l hx hb (by omega) dX3_leafTold_45 ?_
  refine kc0 (fun _ q => q) (va_runS (As := [.long (lZ ((σ 0 pj)))]) (rest := [.int (iZ 3), .ref v_1, .ref v_1]) ⟨hx, hb, hml, hown, hts⟩ (c_X3_daysOf l _ (((σ 0 pj))) (by omega)) (va_cwS 1 hts (kg_S mw1151 mw1152 mw47 rfl mw1153) rfl rfl rfl hdS_X3_daysOf ⟨Nat.le_of_ble_eq_true rfl, Nat.le_of_ble_eq_true rfl⟩) ⟨fun a U g mk q => q, fun U hU hW => ⟨rfl, hU⟩⟩ rfl rfl hl.1 rfl (lv_room (Nat.le_of_ble_eq_true rfl)) dX3_leafTold_46 ⟨Nat.le_of_ble_eq_true rfl, Nat.le_of_ble_eq_true rfl⟩) ?_
  refine kz_iast hx hb hM.1 hP hD hS 17 rfl (by omega) (by decide) dX3_leafTold_49 (fun H locs hP hD hS => ?_)
  have hP : va_P (dC, dI) vwCl (kY dA m0 r0 σ (th) ++ ([(v_1, .inl (dA 0, 8, .inl (upd (upd (upd (upd (fun _ => 0) 0 (iZ (σ 0 pj))) 1 (iZ (σ 1 pj))) 2 (iZ (mlen (leap ((((σ 0 pj))))) (((σ 1 pj)))))) 3 (iZ (ylen ((((σ 0 pj)))))))))] : va_W)) _ := hP
  have hD : va_D (kAy m0 r0 s.heap.size) (kY dA m0 r0 σ (th) ++ ([(v_1, .inl (dA 0, 8, .inl (upd (upd (upd (upd (fun _ => 0) 0 (iZ (σ 0 pj))) 1 (iZ (σ 1 pj))) 2 (iZ (mlen (leap ((((σ 0 pj))))) (((σ 1 pj)))))) 3 (iZ (ylen ((((σ 0 pj)))))))))] : va_W)) := hD
  refine lv_dup hx hb dX3_leafTold_50 rfl ?_
  refine lv_iconst (v := iZ 4) hx hb dX3_leafTold_51 rfl ?_
  refine lv_iload_n hx hb dX3_leafTold_52 rfl (lv_at hl 1 rfl) ?_
  refine kz_i2l hx hb (by omega) dX3_leafTold_53 ?_
  refine kc0 (fun _ q => q) (va_runS (As := [.long (lZ ((σ 0 pj)))]) (rest := [.int (iZ 4), .ref v_1, .ref v_1]) ⟨hx, hb, hml, hown, hts⟩ (c_X3_isLeapYear l _ (((σ 0 pj))) (by omega)) (va_cwS 1 hts (kg_S mw1049 mw1050 mw47 rfl mw1051) rfl rfl rfl hdS_X3_isLeapYear ⟨Nat.le_of_ble_eq_true rfl, Nat.le_of_ble_eq_true rfl⟩) ⟨fun a U g mk q => q, fun U hU hW => ⟨rfl, hU⟩⟩ rfl rfl hl.1 rfl (lv_room (Nat.le_of_ble_eq_true rfl)) dX3_leafTold_54 ⟨Nat.le_of_ble_eq_true rfl, Nat.le_of_ble_eq_true rfl⟩) ?_
  refine kc0 (fun _ q => q) (va_runS (As := [.int (iZ (bZ (leap ((((σ 0 pj)))))))]) (rest := [.int (iZ 4), .ref v_1, .ref v_1]) ⟨hx, hb, hml, hown, hts⟩ (c_X3_bit l _ (leap ((((σ 0 pj)))))) (va_cwS 1 hts (kg_S mw1116 mw1117 mw47 rfl mw1118) rfl rfl rfl hdS_X3_bit ⟨Nat.le_of_ble_eq_true rfl, Nat.le_of_ble_eq_true rfl⟩) ⟨fun a U g mk q => q, fun U hU hW => ⟨rfl, hU⟩⟩ rfl rfl hl.1 rfl (lv_room (Nat.le_of_ble_eq_true rfl)) dX3_leafTold_57 ⟨Nat.le_of_ble_eq_true rfl, Nat.le_of_ble_eq_true rfl⟩) ?_
  refine kz_iast hx hb hM.1 hP hD hS 17 rfl (by omega) (by decide) dX3_leafTold_60 (fun H locs hP hD hS => ?_)
  have hP : va_P (dC, dI) vwCl (kY dA m0 r0 σ (th) ++ ([(v_1, .inl (dA 0, 8, .inl (upd (upd (upd (upd (upd (fun _ => 0) 0 (iZ (σ 0 pj))) 1 (iZ (σ 1 pj))) 2 (iZ (mlen (leap ((((σ 0 pj))))) (((σ 1 pj)))))) 3 (iZ (ylen ((((σ 0 pj))))))) 4 (iZ (bZ ((leap ((((σ 0 pj)))))))))))] : va_W)) _ := hP
  have hD : va_D (kAy m0 r0 s.heap.size) (kY dA m0 r0 σ (th) ++ ([(v_1, .inl (dA 0, 8, .inl (upd (upd (upd (upd (upd (fun _ => 0) 0 (iZ (σ 0 pj))) 1 (iZ (σ 1 pj))) 2 (iZ (mlen (leap ((((σ 0 pj))))) (((σ 1 pj)))))) 3 (iZ (ylen ((((σ 0 pj))))))) 4 (iZ (bZ ((leap ((((σ 0 pj)))))))))))] : va_W)) := hD
  refine lv_dup hx hb dX3_leafTold_61 rfl ?_
  refine lv_iconst (v := iZ 5) hx hb dX3_leafTold_62 rfl ?_
  refine lv_iload hx hb dX3_leafTold_63 (lv_at hl 0 rfl) ?_
  refine kz_iast hx hb hM.1 hP hD hS 17 rfl (by omega) (by decide) dX3_leafTold_65 (fun H locs hP hD hS => ?_)
  have hP : va_P (dC, dI) vwCl (kY dA m0 r0 σ (th) ++ ([(v_1, .inl (dA 0, 8, .inl (upd (upd (upd (upd (upd (upd (fun _ => 0) 0 (iZ (σ 0 pj))) 1 (iZ (σ 1 pj))) 2 (iZ (mlen (leap ((((σ 0 pj))))) (((σ 1 pj)))))) 3 (iZ (ylen ((((σ 0 pj))))))) 4 (iZ (bZ ((leap ((((σ 0 pj))))))))) 5 (iZ (σ 1 pj)))))] : va_W)) _ := hP
  have hD : va_D (kAy m0 r0 s.heap.size) (kY dA m0 r0 σ (th) ++ ([(v_1, .inl (dA 0, 8, .inl (upd (upd (upd (upd (upd (upd (fun _ => 0) 0 (iZ (σ 0 pj))) 1 (iZ (σ 1 pj))) 2 (iZ (mlen (leap ((((σ 0 pj))))) (((σ 1 pj)))))) 3 (iZ (ylen ((((σ 0 pj))))))) 4 (iZ (bZ ((leap ((((σ 0 pj))))))))) 5 (iZ (σ 1 pj)))))] : va_W)) := hD
  refine lv_dup hx hb dX3_leafTold_66 rfl ?_
  refine lv_bipush (v := iZ 6) hx hb dX3_leafTold_67 rfl ?_
  refine lv_iload_n hx hb dX3_leafTold_69 rfl (lv_at hl 1 rfl) ?_
  refine kc0 (fun _ q => q) (va_runS (As := [.int (iZ (σ 0 pj))]) (rest := [.int (iZ 6), .ref v_1, .ref v_1]) ⟨hx, hb, hml, hown, hts⟩ (c_X3_rank l _ ((σ 0 pj)) (by omega)) (va_cwS 1 hts (kg_S mw1122 mw1123 mw47 rfl mw1124) rfl rfl rfl hdS_X3_rank ⟨Nat.le_of_ble_eq_true rfl, Nat.le_of_ble_eq_true rfl⟩) ⟨fun a U g mk q => q, fun U hU hW => ⟨rfl, hU⟩⟩ rfl rfl hl.1 rfl (lv_room (Nat.le_of_ble_eq_true rfl)) dX3_leafTold_70 ⟨Nat.le_of_ble_eq_true rfl, Nat.le_of_ble_eq_true rfl⟩) ?_
  refine kz_iast hx hb hM.1 hP hD hS 17 rfl (by omega) (by decide) dX3_leafTold_73 (fun H locs hP hD hS => ?_)
  have hP : va_P (dC, dI) vwCl (kY dA m0 r0 σ (th) ++ ([(v_1, .inl (dA 0, 8, .inl (upd (upd (upd (upd (upd (upd (upd (fun _ => 0) 0 (iZ (σ 0 pj))) 1 (iZ (σ 1 pj))) 2 (iZ (mlen (leap ((((σ 0 pj))))) (((σ 1 pj)))))) 3 (iZ (ylen ((((σ 0 pj))))))) 4 (iZ (bZ ((leap ((((σ 0 pj))))))))) 5 (iZ (σ 1 pj))) 6 (iZ (rank (((σ 0 pj))))))))] : va_W)) _ := hP
  have hD : va_D (kAy m0 r0 s.heap.size) (kY dA m0 r0 σ (th) ++ ([(v_1, .inl (dA 0, 8, .inl (upd (upd (upd (upd (upd (upd (upd (fun _ => 0) 0 (iZ (σ 0 pj))) 1 (iZ (σ 1 pj))) 2 (iZ (mlen (leap ((((σ 0 pj))))) (((σ 1 pj)))))) 3 (iZ (ylen ((((σ 0 pj))))))) 4 (iZ (bZ ((leap ((((σ 0 pj))))))))) 5 (iZ (σ 1 pj))) 6 (iZ (rank (((σ 0 pj))))))))] : va_W)) := hD
  refine lv_dup hx hb dX3_leafTold_74 rfl ?_
  refine lv_bipush (v := iZ 7) hx hb dX3_leafTold_75 rfl ?_
  refine lv_iload_n hx hb dX3_leafTold_77 rfl (lv_at hl 1 rfl) ?_
  refine kc0 (fun _ q => q) (va_runS (As := [.int (iZ (σ 0 pj))]) (rest := [.int (iZ 7), .ref v_1, .ref v_1]) ⟨hx, hb, hml, hown, hts⟩ (c_X3_side l _ ((σ 0 pj)) (by omega)) (va_cwS 1 hts (kg_S mw1113 mw1114 mw47 rfl mw1115) rfl rfl rfl hdS_X3_side ⟨Nat.le_of_ble_eq_true rfl, Nat.le_of_ble_eq_true rfl⟩) ⟨fun a U g mk q => q, fun U hU hW => ⟨rfl, hU⟩⟩ rfl rfl hl.1 rfl (lv_room (Nat.le_of_ble_eq_true rfl)) dX3_leafTold_78 ⟨Nat.le_of_ble_eq_true rfl, Nat.le_of_ble_eq_true rfl⟩) ?_
  refine kz_iast hx hb hM.1 hP hD hS 17 rfl (by omega) (by decide) dX3_leafTold_81 (fun H locs hP hD hS => ?_)
  have hP : va_P (dC, dI) vwCl (kY dA m0 r0 σ (th) ++ ([(v_1, .inl (dA 0, 8, .inl (upd (upd (upd (upd (upd (upd (upd (upd (fun _ => 0) 0 (iZ (σ 0 pj))) 1 (iZ (σ 1 pj))) 2 (iZ (mlen (leap ((((σ 0 pj))))) (((σ 1 pj)))))) 3 (iZ (ylen ((((σ 0 pj))))))) 4 (iZ (bZ ((leap ((((σ 0 pj))))))))) 5 (iZ (σ 1 pj))) 6 (iZ (rank (((σ 0 pj)))))) 7 (iZ (side (((σ 0 pj))))))))] : va_W)) _ := hP
  have hD : va_D (kAy m0 r0 s.heap.size) (kY dA m0 r0 σ (th) ++ ([(v_1, .inl (dA 0, 8, .inl (upd (upd (upd (upd (upd (upd (upd (upd (fun _ => 0) 0 (iZ (σ 0 pj))) 1 (iZ (σ 1 pj))) 2 (iZ (mlen (leap ((((σ 0 pj))))) (((σ 1 pj)))))) 3 (iZ (ylen ((((σ 0 pj))))))) 4 (iZ (bZ ((leap ((((σ 0 pj))))))))) 5 (iZ (σ 1 pj))) 6 (iZ (rank (((σ 0 pj)))))) 7 (iZ (side (((σ 0 pj))))))))] : va_W)) := hD
  refine lv_astore (lv' := [(5, .ref v_1), (4, .int (iZ (σ 1 pj))), (3, .int (iZ (σ 0 pj))), (0, .ref m0), (1, .int (iZ ((pj : Nat) : Int))), (2, .int (iZ w0))]) hx hb dX3_leafTold_82 hl (by decide) rfl (fun ls hl => ?_)
  refine lv_aload hx hb dX3_leafTold_84 (lv_at hl 0 rfl) ?_
  refine lv_iload_n hx hb dX3_leafTold_86 rfl (lv_at hl 5 rfl) ?_
  refine kz_iald (v := ofL σ pj w0) hx hb hM.1 hP 17 0 rfl rfl (by omega) (by decide) (by rcases (show w0 = 0 ∨ w0 = 1 ∨ w0 = 2 ∨ w0 = 3 ∨ w0 = 4 ∨ w0 = 5 ∨ w0 = 6 ∨ w0 = 7 from by omega) with rfl | rfl | rfl | rfl | rfl | rfl | rfl | rfl <;> first | rfl) dX3_leafTold_87 ?_
  refine W.widen (k := 1) (n := 8) (Nat.le_of_ble_eq_true rfl) (Nat.le_of_ble_eq_true rfl) ?_
  exact W.iret (v := iZ (ofL σ pj w0)) hx hb hr9 (fun t ht hW => ⟨⟨congrArg (fun z : Int => Outcome.returned (some (Value.int (iZ z)))) (show (ofL σ pj w0) = (ofL σ pj w0) from rfl), kYcast (by rw [ht]; exact va_Pl hP) (show (σ) = (σ) from rfl) (show (th) = (th) from rfl)⟩, hS.F ht⟩) hS.2.2 dX3_leafTold_88

abbrev ww_X3_yearTold : List Cond := .code yX3_yearTold cX3_yearTold 5 (some .int) :: gT
set_option maxHeartbeats 4000000 in
set_option maxRecDepth 100000 in
theorem c_X3_yearTold (l : Launch) (dC : Nat → ClassId) (dI : Nat → Nat → Nat) (dA : Nat → ClassId) (k : Nat → Nat) (m0 : Nat) (r0 : Nat → Nat → Nat) (σ : Nat → Nat → Int) (th : Int) (H0 : Heap) (hP : va_P (dC, dI) vwCl (kY dA m0 r0 σ th) H0) (hr : kRI m0 r0 k) (hOK : kOK σ) (pj : Nat) (w0 : Int) (hpj : pj < 4) (h0 : 0 ≤ w0 ∧ w0 ≤ 4) : Met l yX3_yearTold ww_X3_yearTold ({ frames := 3, cells := 1, slots := 5, locals := 64 }) (va_Pc [.ref m0, .int (iZ ((pj : Nat) : Int)), .int (iZ w0)] (fun U => U.heap = H0 ∧ kM dC dI dA k U)) (kQ2 (some (.int (iZ (ofY σ pj w0)))) (fun H => va_P (dC, dI) vwCl (kY dA m0 r0 (σ) (th)) H) (kAy m0 r0 H0.size)) 1 5 (kAy m0 r0 H0.size) := by
  refine Met.ofW (cc := cX3_yearTold) (maxL := 5) (ret := (some .int)) (by decide) rfl ?_
  intro p e s m args below meth c s₁ B hml hv
  obtain ⟨rfl, hH, hM⟩ := hv
  subst hH
  have hr0 := hr
  have hAN : ∀ a, kAy m0 r0 s.heap.size a → k 0 ≤ a := fun a h => kAy_N hr0 hM.2.1.1 a h
  have hrA : ∀ i : Nat, i < 17 → kAy m0 r0 s.heap.size (kR m0 r0 i) := fun i hi => Or.inl ⟨i, hi, rfl⟩
  have hD : va_D (kAy m0 r0 s.heap.size) (kY dA m0 r0 σ (th) ++ ([] : va_W)) := by rw [← kap]; exact kYD_A hr hrA
  have hP : va_P (dC, dI) vwCl (kY dA m0 r0 σ (th) ++ ([] : va_W)) s.heap := hP
  have hS : va_S (kAy m0 r0 s.heap.size) s.heap s.heap [] := va_S.rf
  have o_pj := kOKr hOK hpj
  have hx := B.exec
  have hb := B.bytes
  have hr9 := B.returns
  have hts := atoms_spec (ws := ww_X3_yearTold) B.pre
  have hown : s.vm.findClass RX3 = some m.cls := findClass_of_methodNamed B.named
  have hlocks := B.notSynchronized
  have hl := lv_entry ([.ref m0, .int (iZ ((pj : Nat) : Int)), .int (iZ w0)]) (n := 5) (Nat.le_of_ble_eq_true rfl)
  rw [lg_entry_eq]
  generalize (lg_sl ([.ref m0, .int (iZ ((pj : Nat) : Int)), .int (iZ w0)]) ++ List.replicate (5 - (lg_sl ([.ref m0, .int (iZ ((pj : Nat) : Int)), .int (iZ w0)])).length) Slot.unset).toArray = ls at hl ⊢
  have hl : lv_has ls 5 [(0, .ref m0), (1, .int (iZ ((pj : Nat) : Int))), (2, .int (iZ w0))] := hl
  refine lv_aload_n hx hb dX3_yearTold_0 rfl (lv_at hl 0 rfl) ?_
  refine va_get (D := (dC, dI)) (ci := 6) (v := .ref (r0 0 2)) (C := RX3) (T := TX3) (N := 6) hx hb hts (fun w h => List.mem_cons_of_mem _ (gF_2_in h)) hown hM.1 hP 0 rfl rfl 1 (by decide) (hts _ (List.mem_cons_of_mem _ mw1008)) (fun _ h9 => h9) rfl dX3_yearTold_1 ?_
  refine lv_iload_n hx hb dX3_yearTold_4 rfl (lv_at hl 1 rfl) ?_
  refine kz_iald (v := σ 2 pj) hx hb hM.1 hP 2 0 rfl rfl (by omega) (by decide) rfl dX3_yearTold_5 ?_
  refine lv_istore_n (lv' := [(3, .int (iZ (σ 2 pj))), (0, .ref m0), (1, .int (iZ ((pj : Nat) : Int))), (2, .int (iZ w0))]) hx hb dX3_yearTold_6 rfl hl (by decide) rfl (fun ls hl => ?_)
  refine lv_iconst (v := iZ 5) hx hb dX3_yearTold_7 rfl ?_
  refine kz_newI (N := 5) hx hb (hts _ (List.mem_cons_of_mem _ mw95)) hM.1 hP hD hS kAy_new (by decide) (Nat.le_of_ble_eq_true rfl) (Nat.le_of_ble_eq_true rfl) dX3_yearTold_8 (fun v_1 H hP hD hS => ?_)
  have hP : va_P (dC, dI) vwCl (kY dA m0 r0 σ (th) ++ ([(v_1, .inl (dA 0, 5, .inl (fun _ => 0)))] : va_W)) _ := hP
  have hD : va_D (kAy m0 r0 s.heap.size) (kY dA m0 r0 σ (th) ++ ([(v_1, .inl (dA 0, 5, .inl (fun _ => 0)))] : va_W)) := hD
  refine lv_dup hx hb dX3_yearTold_10 rfl ?_
  refine lv_iconst (v := iZ 0) hx hb dX3_yearTold_11 rfl ?_
  refine lv_iload_n hx hb dX3_yearTold_12 rfl (lv_at hl 0 rfl) ?_
  refine kz_iast hx hb hM.1 hP hD hS 17 rfl (by omega) (by decide) dX3_yearTold_13 (fun H locs hP hD hS => ?_)
  have hP : va_P (dC, dI) vwCl (kY dA m0 r0 σ (th) ++ ([(v_1, .inl (dA 0, 5, .inl (upd (fun _ => 0) 0 (iZ (σ 2 pj)))))] : va_W)) _ := hP
  have hD : va_D (kAy m0 r0 s.heap.size) (kY dA m0 r0 σ (th) ++ ([(v_1, .inl (dA 0, 5, .inl (upd (fun _ => 0) 0 (iZ (σ 2 pj)))))] : va_W)) := hD
  refine lv_dup hx hb dX3_yearTold_14 rfl ?_
  refine lv_iconst (v := iZ 1) hx hb dX3_yearTold_15 rfl ?_
  refine lv_iload_n hx hb dX3_yearTold_16 rfl (lv_at hl 0 rfl) ?_
  refine kz_i2l hx hb (by omega) dX3_yearTold_17 ?_
  refine kc0 (fun _ q => q) (va_runS (As := [.long (lZ ((σ 2 pj)))]) (rest := [.int (iZ 1), .ref v_1, .ref v_1]) ⟨hx, hb, hml, hown, hts⟩ (c_X3_isLeapYear l _ (((σ 2 pj))) (by omega)) (va_cwS 1 hts (kg_S mw1049 mw1050 mw47 rfl mw1051) rfl rfl rfl hdS_X3_isLeapYear ⟨Nat.le_of_ble_eq_true rfl, Nat.le_of_ble_eq_true rfl⟩) ⟨fun a U g mk q => q, fun U hU hW => ⟨rfl, hU⟩⟩ rfl rfl hl.1 rfl (lv_room (Nat.le_of_ble_eq_true rfl)) dX3_yearTold_18 ⟨Nat.le_of_ble_eq_true rfl, Nat.le_of_ble_eq_true rfl⟩) ?_
  refine kc0 (fun _ q => q) (va_runS (As := [.int (iZ (bZ (leap ((((σ 2 pj)))))))]) (rest := [.int (iZ 1), .ref v_1, .ref v_1]) ⟨hx, hb, hml, hown, hts⟩ (c_X3_bit l _ (leap ((((σ 2 pj)))))) (va_cwS 1 hts (kg_S mw1116 mw1117 mw47 rfl mw1118) rfl rfl rfl hdS_X3_bit ⟨Nat.le_of_ble_eq_true rfl, Nat.le_of_ble_eq_true rfl⟩) ⟨fun a U g mk q => q, fun U hU hW => ⟨rfl, hU⟩⟩ rfl rfl hl.1 rfl (lv_room (Nat.le_of_ble_eq_true rfl)) dX3_yearTold_21 ⟨Nat.le_of_ble_eq_true rfl, Nat.le_of_ble_eq_true rfl⟩) ?_
  refine kz_iast hx hb hM.1 hP hD hS 17 rfl (by omega) (by decide) dX3_yearTold_24 (fun H locs hP hD hS => ?_)
  have hP : va_P (dC, dI) vwCl (kY dA m0 r0 σ (th) ++ ([(v_1, .inl (dA 0, 5, .inl (upd (upd (fun _ => 0) 0 (iZ (σ 2 pj))) 1 (iZ (bZ ((leap ((((σ 2 pj)))))))))))] : va_W)) _ := hP
  have hD : va_D (kAy m0 r0 s.heap.size) (kY dA m0 r0 σ (th) ++ ([(v_1, .inl (dA 0, 5, .inl (upd (upd (fun _ => 0) 0 (iZ (σ 2 pj))) 1 (iZ (bZ ((leap ((((σ 2 pj)))))))))))] : va_W)) := hD
  refine lv_dup hx hb dX3_yearTold_25 rfl ?_
  refine lv_iconst (v := iZ 2) hx hb dX3_yearTold_26 rfl ?_
  refine lv_iload_n hx hb dX3_yearTold_27 rfl (lv_at hl 0 rfl) ?_
  refine kz_i2l hx hb (by omega) dX3_yearTold_28 ?_
  refine kc0 (fun _ q => q) (va_runS (As := [.long (lZ ((σ 2 pj)))]) (rest := [.int (iZ 2), .ref v_1, .ref v_1]) ⟨hx, hb, hml, hown, hts⟩ (c_X3_daysOf l _ (((σ 2 pj))) (by omega)) (va_cwS 1 hts (kg_S mw1151 mw1152 mw47 rfl mw1153) rfl rfl rfl hdS_X3_daysOf ⟨Nat.le_of_ble_eq_true rfl, Nat.le_of_ble_eq_true rfl⟩) ⟨fun a U g mk q => q, fun U hU hW => ⟨rfl, hU⟩⟩ rfl rfl hl.1 rfl (lv_room (Nat.le_of_ble_eq_true rfl)) dX3_yearTold_29 ⟨Nat.le_of_ble_eq_true rfl, Nat.le_of_ble_eq_true rfl⟩) ?_
  refine kz_iast hx hb hM.1 hP hD hS 17 rfl (by omega) (by decide) dX3_yearTold_32 (fun H locs hP hD hS => ?_)
  have hP : va_P (dC, dI) vwCl (kY dA m0 r0 σ (th) ++ ([(v_1, .inl (dA 0, 5, .inl (upd (upd (upd (fun _ => 0) 0 (iZ (σ 2 pj))) 1 (iZ (bZ ((leap ((((σ 2 pj))))))))) 2 (iZ (ylen ((((σ 2 pj)))))))))] : va_W)) _ := hP
  have hD : va_D (kAy m0 r0 s.heap.size) (kY dA m0 r0 σ (th) ++ ([(v_1, .inl (dA 0, 5, .inl (upd (upd (upd (fun _ => 0) 0 (iZ (σ 2 pj))) 1 (iZ (bZ ((leap ((((σ 2 pj))))))))) 2 (iZ (ylen ((((σ 2 pj)))))))))] : va_W)) := hD
  refine lv_dup hx hb dX3_yearTold_33 rfl ?_
  refine lv_iconst (v := iZ 3) hx hb dX3_yearTold_34 rfl ?_
  refine lv_iload_n hx hb dX3_yearTold_35 rfl (lv_at hl 0 rfl) ?_
  refine kc0 (fun _ q => q) (va_runS (As := [.int (iZ (σ 2 pj))]) (rest := [.int (iZ 3), .ref v_1, .ref v_1]) ⟨hx, hb, hml, hown, hts⟩ (c_X3_rank l _ ((σ 2 pj)) (by omega)) (va_cwS 1 hts (kg_S mw1122 mw1123 mw47 rfl mw1124) rfl rfl rfl hdS_X3_rank ⟨Nat.le_of_ble_eq_true rfl, Nat.le_of_ble_eq_true rfl⟩) ⟨fun a U g mk q => q, fun U hU hW => ⟨rfl, hU⟩⟩ rfl rfl hl.1 rfl (lv_room (Nat.le_of_ble_eq_true rfl)) dX3_yearTold_36 ⟨Nat.le_of_ble_eq_true rfl, Nat.le_of_ble_eq_true rfl⟩) ?_
  refine kz_iast hx hb hM.1 hP hD hS 17 rfl (by omega) (by decide) dX3_yearTold_39 (fun H locs hP hD hS => ?_)
  have hP : va_P (dC, dI) vwCl (kY dA m0 r0 σ (th) ++ ([(v_1, .inl (dA 0, 5, .inl (upd (upd (upd (upd (fun _ => 0) 0 (iZ (σ 2 pj))) 1 (iZ (bZ ((leap ((((σ 2 pj))))))))) 2 (iZ (ylen ((((σ 2 pj))))))) 3 (iZ (rank (((σ 2 pj))))))))] : va_W)) _ := hP
  have hD : va_D (kAy m0 r0 s.heap.size) (kY dA m0 r0 σ (th) ++ ([(v_1, .inl (dA 0, 5, .inl (upd (upd (upd (upd (fun _ => 0) 0 (iZ (σ 2 pj))) 1 (iZ (bZ ((leap ((((σ 2 pj))))))))) 2 (iZ (ylen ((((σ 2 pj))))))) 3 (iZ (rank (((σ 2 pj))))))))] : va_W)) := hD
  refine lv_dup hx hb dX3_yearTold_40 rfl ?_
  refine lv_iconst (v := iZ 4) hx hb dX3_yearTold_41 rfl ?_
  refine lv_iload_n hx hb dX3_yearTold_42 rfl (lv_at hl 0 rfl) ?_
  refine kc0 (fun _ q => q) (va_runS (As := [.int (iZ (σ 2 pj))]) (rest := [.int (iZ 4), .ref v_1, .ref v_1]) ⟨hx, hb, hml, hown, hts⟩ (c_X3_side l _ ((σ 2 pj)) (by omega)) (va_cwS 1 hts (kg_S mw1113 mw1114 mw47 rfl mw1115) rfl rfl rfl hdS_X3_side ⟨Nat.le_of_ble_eq_true rfl, Nat.le_of_ble_eq_true rfl⟩) ⟨fun a U g mk q => q, fun U hU hW => ⟨rfl, hU⟩⟩ rfl rfl hl.1 rfl (lv_room (Nat.le_of_ble_eq_true rfl)) dX3_yearTold_43 ⟨Nat.le_of_ble_eq_true rfl, Nat.le_of_ble_eq_true rfl⟩) ?_
  refine kz_iast hx hb hM.1 hP hD hS 17 rfl (by omega) (by decide) dX3_yearTold_46 (fun H locs hP hD hS => ?_)
  have hP : va_P (dC, dI) vwCl (kY dA m0 r0 σ (th) ++ ([(v_1, .inl (dA 0, 5, .inl (upd (upd (upd (upd (upd (fun _ => 0) 0 (iZ (σ 2 pj))) 1 (iZ (bZ ((leap ((((σ 2 pj))))))))) 2 (iZ (ylen ((((σ 2 pj))))))) 3 (iZ (rank (((σ 2 pj)))))) 4 (iZ (side (((σ 2 pj))))))))] : va_W)) _ := hP
  have hD : va_D (kAy m0 r0 s.heap.size) (kY dA m0 r0 σ (th) ++ ([(v_1, .inl (dA 0, 5, .inl (upd (upd (upd (upd (upd (fun _ => 0) 0 (iZ (σ 2 pj))) 1 (iZ (bZ ((leap ((((σ 2 pj))))))))) 2 (iZ (ylen ((((σ 2 pj))))))) 3 (iZ (rank (((σ 2 pj)))))) 4 (iZ (side (((σ 2 pj))))))))] : va_W)) := hD
  refine lv_astore (lv' := [(4, .ref v_1), (3, .int (iZ (σ 2 pj))), (0, .ref m0), (1, .int (iZ ((pj : Nat) : Int))), (2, .int (iZ w0))]) hx hb dX3_yearTold_47 hl (by decide) rfl (fun ls hl => ?_)
  refine lv_aload hx hb dX3_yearTold_49 (lv_at hl 0 rfl) ?_
  refine lv_iload_n hx hb dX3_yearTold_51 rfl (lv_at hl 4 rfl) ?_
  refine kz_iald (v := ofY σ pj w0) hx hb hM.1 hP 17 0 rfl rfl (by omega) (by decide) (by rcases (show w0 = 0 ∨ w0 = 1 ∨ w0 = 2 ∨ w0 = 3 ∨ w0 = 4 from by omega) with rfl | rfl | rfl | rfl | rfl <;> first | rfl) dX3_yearTold_52 ?_
  refine W.widen (k := 1) (n := 5) (Nat.le_of_ble_eq_true rfl) (Nat.le_of_ble_eq_true rfl) ?_
  exact W.iret (v := iZ (ofY σ pj w0)) hx hb hr9 (fun t ht hW => ⟨⟨congrArg (fun z : Int => Outcome.returned (some (Value.int (iZ z)))) (show (ofY σ pj w0) = (ofY σ pj w0) from rfl), kYcast (by rw [ht]; exact va_Pl hP) (show (σ) = (σ) from rfl) (show (th) = (th) from rfl)⟩, hS.F ht⟩) hS.2.2 dX3_yearTold_53

abbrev ww_X3_feastTold : List Cond := .code yX3_feastTold cX3_feastTold 5 (some .int) :: gT
set_option maxHeartbeats 4000000 in
set_option maxRecDepth 100000 in
theorem c_X3_feastTold (l : Launch) (dC : Nat → ClassId) (dI : Nat → Nat → Nat) (dA : Nat → ClassId) (k : Nat → Nat) (m0 : Nat) (r0 : Nat → Nat → Nat) (σ : Nat → Nat → Int) (th : Int) (H0 : Heap) (hP : va_P (dC, dI) vwCl (kY dA m0 r0 σ th) H0) (hr : kRI m0 r0 k) (hOK : kOK σ) (pj : Nat) (w0 : Int) (hpj : pj < 4) (h0 : 0 ≤ w0 ∧ w0 ≤ 4) : Met l yX3_feastTold ww_X3_feastTold ({ frames := 3, cells := 1, slots := 5, locals := 65 }) (va_Pc [.ref m0, .int (iZ ((pj : Nat) : Int)), .int (iZ w0)] (fun U => U.heap = H0 ∧ kM dC dI dA k U)) (kQ2 (some (.int (iZ (ofF σ pj w0)))) (fun H => va_P (dC, dI) vwCl (kY dA m0 r0 (σ) (th)) H) (kAy m0 r0 H0.size)) 1 5 (kAy m0 r0 H0.size) := by
  refine Met.ofW (cc := cX3_feastTold) (maxL := 5) (ret := (some .int)) (by decide) rfl ?_
  intro p e s m args below meth c s₁ B hml hv
  obtain ⟨rfl, hH, hM⟩ := hv
  subst hH
  have hr0 := hr
  have hAN : ∀ a, kAy m0 r0 s.heap.size a → k 0 ≤ a := fun a h => kAy_N hr0 hM.2.1.1 a h
  have hrA : ∀ i : Nat, i < 17 → kAy m0 r0 s.heap.size (kR m0 r0 i) := fun i hi => Or.inl ⟨i, hi, rfl⟩
  have hD : va_D (kAy m0 r0 s.heap.size) (kY dA m0 r0 σ (th) ++ ([] : va_W)) := by rw [← kap]; exact kYD_A hr hrA
  have hP : va_P (dC, dI) vwCl (kY dA m0 r0 σ (th) ++ ([] : va_W)) s.heap := hP
  have hS : va_S (kAy m0 r0 s.heap.size) s.heap s.heap [] := va_S.rf
  have o_pj := kOKr hOK hpj
  have hx := B.exec
  have hb := B.bytes
  have hr9 := B.returns
  have hts := atoms_spec (ws := ww_X3_feastTold) B.pre
  have hown : s.vm.findClass RX3 = some m.cls := findClass_of_methodNamed B.named
  have hlocks := B.notSynchronized
  have hl := lv_entry ([.ref m0, .int (iZ ((pj : Nat) : Int)), .int (iZ w0)]) (n := 5) (Nat.le_of_ble_eq_true rfl)
  rw [lg_entry_eq]
  generalize (lg_sl ([.ref m0, .int (iZ ((pj : Nat) : Int)), .int (iZ w0)]) ++ List.replicate (5 - (lg_sl ([.ref m0, .int (iZ ((pj : Nat) : Int)), .int (iZ w0)])).length) Slot.unset).toArray = ls at hl ⊢
  have hl : lv_has ls 5 [(0, .ref m0), (1, .int (iZ ((pj : Nat) : Int))), (2, .int (iZ w0))] := hl
  refine lv_aload_n hx hb dX3_feastTold_0 rfl (lv_at hl 0 rfl) ?_
  refine va_get (D := (dC, dI)) (ci := 6) (v := .ref (r0 0 3)) (C := RX3) (T := TX3) (N := 6) hx hb hts (fun w h => List.mem_cons_of_mem _ (gF_2_in h)) hown hM.1 hP 0 rfl rfl 2 (by decide) (hts _ (List.mem_cons_of_mem _ mw1009)) (fun _ h9 => h9) rfl dX3_feastTold_1 ?_
  refine lv_iload_n hx hb dX3_feastTold_4 rfl (lv_at hl 1 rfl) ?_
  refine kz_aald (v := r0 2 pj) hx hb hM.1 hP 3 rfl (by omega) (by decide) rfl dX3_feastTold_5 ?_
  refine lv_astore_n (lv' := [(3, .ref (r0 2 pj)), (0, .ref m0), (1, .int (iZ ((pj : Nat) : Int))), (2, .int (iZ w0))]) hx hb dX3_feastTold_6 rfl hl (by decide) rfl (fun ls hl => ?_)
  refine lv_iconst (v := iZ 5) hx hb dX3_feastTold_7 rfl ?_
  refine kz_newI (N := 5) hx hb (hts _ (List.mem_cons_of_mem _ mw95)) hM.1 hP hD hS kAy_new (by decide) (Nat.le_of_ble_eq_true rfl) (Nat.le_of_ble_eq_true rfl) dX3_feastTold_8 (fun v_1 H hP hD hS => ?_)
  have hP : va_P (dC, dI) vwCl (kY dA m0 r0 σ (th) ++ ([(v_1, .inl (dA 0, 5, .inl (fun _ => 0)))] : va_W)) _ := hP
  have hD : va_D (kAy m0 r0 s.heap.size) (kY dA m0 r0 σ (th) ++ ([(v_1, .inl (dA 0, 5, .inl (fun _ => 0)))] : va_W)) := hD
  refine lv_dup hx hb dX3_feastTold_10 rfl ?_
  refine lv_iconst (v := iZ 0) hx hb dX3_feastTold_11 rfl ?_
  refine lv_aload_n hx hb dX3_feastTold_12 rfl (lv_at hl 0 rfl) ?_
  refine lv_iconst (v := iZ 0) hx hb dX3_feastTold_13 rfl ?_
  refine kz_iald (v := σ 3 pj) hx hb hM.1 hP (9 + pj) 0 (kY_F _ hpj) rfl (by omega) (by decide) rfl dX3_feastTold_14 ?_
  refine kz_iast hx hb hM.1 hP hD hS 17 rfl (by omega) (by decide) dX3_feastTold_15 (fun H locs hP hD hS => ?_)
  have hP : va_P (dC, dI) vwCl (kY dA m0 r0 σ (th) ++ ([(v_1, .inl (dA 0, 5, .inl (upd (fun _ => 0) 0 (iZ (σ 3 pj)))))] : va_W)) _ := hP
  have hD : va_D (kAy m0 r0 s.heap.size) (kY dA m0 r0 σ (th) ++ ([(v_1, .inl (dA 0, 5, .inl (upd (fun _ => 0) 0 (iZ (σ 3 pj)))))] : va_W)) := hD
  refine lv_dup hx hb dX3_feastTold_16 rfl ?_
  refine lv_iconst (v := iZ 1) hx hb dX3_feastTold_17 rfl ?_
  refine lv_aload_n hx hb dX3_feastTold_18 rfl (lv_at hl 0 rfl) ?_
  refine lv_iconst (v := iZ 1) hx hb dX3_feastTold_19 rfl ?_
  refine kz_iald (v := σ 4 pj) hx hb hM.1 hP (9 + pj) 0 (kY_F _ hpj) rfl (by omega) (by decide) rfl dX3_feastTold_20 ?_
  refine kz_iast hx hb hM.1 hP hD hS 17 rfl (by omega) (by decide) dX3_feastTold_21 (fun H locs hP hD hS => ?_)
  have hP : va_P (dC, dI) vwCl (kY dA m0 r0 σ (th) ++ ([(v_1, .inl (dA 0, 5, .inl (upd (upd (fun _ => 0) 0 (iZ (σ 3 pj))) 1 (iZ (σ 4 pj)))))] : va_W)) _ := hP
  have hD : va_D (kAy m0 r0 s.heap.size) (kY dA m0 r0 σ (th) ++ ([(v_1, .inl (dA 0, 5, .inl (upd (upd (fun _ => 0) 0 (iZ (σ 3 pj))) 1 (iZ (σ 4 pj)))))] : va_W)) := hD
  refine lv_dup hx hb dX3_feastTold_22 rfl ?_
  refine lv_iconst (v := iZ 2) hx hb dX3_feastTold_23 rfl ?_
  refine lv_aload_n hx hb dX3_feastTold_24 rfl (lv_at hl 0 rfl) ?_
  refine lv_iconst (v := iZ 0) hx hb dX3_feastTold_25 rfl ?_
  refine kz_iald (v := σ 3 pj) hx hb hM.1 hP (9 + pj) 0 (kY_F _ hpj) rfl (by omega) (by decide) rfl dX3_feastTold_26 ?_
  refine kz_iast hx hb hM.1 hP hD hS 17 rfl (by omega) (by decide) dX3_feastTold_27 (fun H locs hP hD hS => ?_)
  have hP : va_P (dC, dI) vwCl (kY dA m0 r0 σ (th) ++ ([(v_1, .inl (dA 0, 5, .inl (upd (upd (upd (fun _ => 0) 0 (iZ (σ 3 pj))) 1 (iZ (σ 4 pj))) 2 (iZ (σ 3 pj)))))] : va_W)) _ := hP
  have hD : va_D (kAy m0 r0 s.heap.size) (kY dA m0 r0 σ (th) ++ ([(v_1, .inl (dA 0, 5, .inl (upd (upd (upd (fun _ => 0) 0 (iZ (σ 3 pj))) 1 (iZ (σ 4 pj))) 2 (iZ (σ 3 pj)))))] : va_W)) := hD
  refine lv_dup hx hb dX3_feastTold_28 rfl ?_
  refine lv_iconst (v := iZ 3) hx hb dX3_feastTold_29 rfl ?_
  refine lv_lconst (v := lZ 1) hx hb dX3_feastTold_30 rfl ?_
  refine lv_aload_n hx hb dX3_feastTold_31 rfl (lv_at hl 0 rfl) ?_
  refine lv_iconst (v := iZ 0) hx hb dX3_feastTold_32 rfl ?_
  refine kz_iald (v := σ 3 pj) hx hb hM.1 hP (9 + pj) 0 (kY_F _ hpj) rfl (by omega) (by decide) rfl dX3_feastTold_33 ?_
  refine kc0 (fun _ q => q) (va_runS (As := [.long (lZ (1)), .int (iZ (σ 3 pj))]) (rest := [.int (iZ 3), .ref v_1, .ref v_1]) ⟨hx, hb, hml, hown, hts⟩ (c_X3_length l dC dI dA k _ (1) ((σ 3 pj)) (by omega) (by omega)) (va_cwS 2 hts (kg_S mw1046 mw1047 mw47 rfl mw1048) rfl rfl rfl hdS_X3_length ⟨Nat.le_of_ble_eq_true rfl, Nat.le_of_ble_eq_true rfl⟩) ⟨fun a U g mk q => ⟨q.1, q.2.1, kM_call q.2.2⟩, fun U hU hW => ⟨rfl, hU, kM_kept hM hS hAN hU hW⟩⟩ rfl rfl hl.1 rfl (lv_room (Nat.le_of_ble_eq_true rfl)) dX3_feastTold_34 ⟨Nat.le_of_ble_eq_true rfl, Nat.le_of_ble_eq_true rfl⟩) ?_
  refine kz_iast hx hb hM.1 hP hD hS 17 rfl (by omega) (by decide) dX3_feastTold_37 (fun H locs hP hD hS => ?_)
  have hP : va_P (dC, dI) vwCl (kY dA m0 r0 σ (th) ++ ([(v_1, .inl (dA 0, 5, .inl (upd (upd (upd (upd (fun _ => 0) 0 (iZ (σ 3 pj))) 1 (iZ (σ 4 pj))) 2 (iZ (σ 3 pj))) 3 (iZ (mlen (leap ((1))) (((σ 3 pj))))))))] : va_W)) _ := hP
  have hD : va_D (kAy m0 r0 s.heap.size) (kY dA m0 r0 σ (th) ++ ([(v_1, .inl (dA 0, 5, .inl (upd (upd (upd (upd (fun _ => 0) 0 (iZ (σ 3 pj))) 1 (iZ (σ 4 pj))) 2 (iZ (σ 3 pj))) 3 (iZ (mlen (leap ((1))) (((σ 3 pj))))))))] : va_W)) := hD
  refine lv_dup hx hb dX3_feastTold_38 rfl ?_
  refine lv_iconst (v := iZ 4) hx hb dX3_feastTold_39 rfl ?_
  refine lv_lconst (v := lZ 0) hx hb dX3_feastTold_40 rfl ?_
  refine lv_aload_n hx hb dX3_feastTold_41 rfl (lv_at hl 0 rfl) ?_
  refine lv_iconst (v := iZ 0) hx hb dX3_feastTold_42 rfl ?_
  refine kz_iald (v := σ 3 pj) hx hb hM.1 hP (9 + pj) 0 (kY_F _ hpj) rfl (by omega) (by decide) rfl dX3_feastTold_43 ?_
  refine kc0 (fun _ q => q) (va_runS (As := [.long (lZ (0)), .int (iZ (σ 3 pj))]) (rest := [.int (iZ 4), .ref v_1, .ref v_1]) ⟨hx, hb, hml, hown, hts⟩ (c_X3_length l dC dI dA k _ (0) ((σ 3 pj)) (by omega) (by omega)) (va_cwS 2 hts (kg_S mw1046 mw1047 mw47 rfl mw1048) rfl rfl rfl hdS_X3_length ⟨Nat.le_of_ble_eq_true rfl, Nat.le_of_ble_eq_true rfl⟩) ⟨fun a U g mk q => ⟨q.1, q.2.1, kM_call q.2.2⟩, fun U hU hW => ⟨rfl, hU, kM_kept hM hS hAN hU hW⟩⟩ rfl rfl hl.1 rfl (lv_room (Nat.le_of_ble_eq_true rfl)) dX3_feastTold_44 ⟨Nat.le_of_ble_eq_true rfl, Nat.le_of_ble_eq_true rfl⟩) ?_
  refine kz_iast hx hb hM.1 hP hD hS 17 rfl (by omega) (by decide) dX3_feastTold_47 (fun H locs hP hD hS => ?_)
  have hP : va_P (dC, dI) vwCl (kY dA m0 r0 σ (th) ++ ([(v_1, .inl (dA 0, 5, .inl (upd (upd (upd (upd (upd (fun _ => 0) 0 (iZ (σ 3 pj))) 1 (iZ (σ 4 pj))) 2 (iZ (σ 3 pj))) 3 (iZ (mlen (leap ((1))) (((σ 3 pj)))))) 4 (iZ (mlen (leap ((0))) (((σ 3 pj))))))))] : va_W)) _ := hP
  have hD : va_D (kAy m0 r0 s.heap.size) (kY dA m0 r0 σ (th) ++ ([(v_1, .inl (dA 0, 5, .inl (upd (upd (upd (upd (upd (fun _ => 0) 0 (iZ (σ 3 pj))) 1 (iZ (σ 4 pj))) 2 (iZ (σ 3 pj))) 3 (iZ (mlen (leap ((1))) (((σ 3 pj)))))) 4 (iZ (mlen (leap ((0))) (((σ 3 pj))))))))] : va_W)) := hD
  refine lv_astore (lv' := [(4, .ref v_1), (3, .ref (r0 2 pj)), (0, .ref m0), (1, .int (iZ ((pj : Nat) : Int))), (2, .int (iZ w0))]) hx hb dX3_feastTold_48 hl (by decide) rfl (fun ls hl => ?_)
  refine lv_aload hx hb dX3_feastTold_50 (lv_at hl 0 rfl) ?_
  refine lv_iload_n hx hb dX3_feastTold_52 rfl (lv_at hl 4 rfl) ?_
  refine kz_iald (v := ofF σ pj w0) hx hb hM.1 hP 17 0 rfl rfl (by omega) (by decide) (by rcases (show w0 = 0 ∨ w0 = 1 ∨ w0 = 2 ∨ w0 = 3 ∨ w0 = 4 from by omega) with rfl | rfl | rfl | rfl | rfl <;> first | rfl) dX3_feastTold_53 ?_
  refine W.widen (k := 1) (n := 5) (Nat.le_of_ble_eq_true rfl) (Nat.le_of_ble_eq_true rfl) ?_
  exact W.iret (v := iZ (ofF σ pj w0)) hx hb hr9 (fun t ht hW => ⟨⟨congrArg (fun z : Int => Outcome.returned (some (Value.int (iZ z)))) (show (ofF σ pj w0) = (ofF σ pj w0) from rfl), kYcast (by rw [ht]; exact va_Pl hP) (show (σ) = (σ) from rfl) (show (th) = (th) from rfl)⟩, hS.F ht⟩) hS.2.2 dX3_feastTold_54

abbrev ww_X3_ofLeaf : List Cond := .code yX3_ofLeaf cX3_ofLeaf 3 (some .int) :: gT
set_option maxHeartbeats 4000000 in
set_option maxRecDepth 100000 in
theorem c_X3_ofLeaf (l : Launch) (dC : Nat → ClassId) (dI : Nat → Nat → Nat) (dA : Nat → ClassId) (k : Nat → Nat) (m0 : Nat) (r0 : Nat → Nat → Nat) (σ : Nat → Nat → Int) (th : Int) (H0 : Heap) (hP : va_P (dC, dI) vwCl (kY dA m0 r0 σ th) H0) (hr : kRI m0 r0 k) (hOK : kOK σ) (z1 : Int) (w0 : Int) (rz1 : -2147483648 ≤ z1 ∧ z1 < 2147483648) (rw0 : -2147483648 ≤ w0 ∧ w0 < 2147483648) : Met l yX3_ofLeaf ww_X3_ofLeaf ({ frames := 4, cells := 1, slots := 8, locals := 90 }) (va_Pc [.ref m0, .int (iZ z1), .int (iZ w0)] (fun U => U.heap = H0 ∧ kM dC dI dA k U)) (kQ2 (some (.int (iZ (if ex2 (!inb z1 0 3) (!inb w0 0 7) = 0 then (ofL σ (z1.toNat) w0) else 0)))) (gY dC dI dA k m0 r0 H0.size (σ) (ex2 (!inb z1 0 3) (!inb w0 0 7))) (kAy m0 r0 H0.size)) 1 8 (kAy m0 r0 H0.size) := by
  refine Met.ofW (cc := cX3_ofLeaf) (maxL := 3) (ret := (some .int)) (by decide) rfl ?_
  intro p e s m args below meth c s₁ B hml hv
  obtain ⟨rfl, hH, hM⟩ := hv
  subst hH
  have hr0 := hr
  have hAN : ∀ a, kAy m0 r0 s.heap.size a → k 0 ≤ a := fun a h => kAy_N hr0 hM.2.1.1 a h
  have hrA : ∀ i : Nat, i < 17 → kAy m0 r0 s.heap.size (kR m0 r0 i) := fun i hi => Or.inl ⟨i, hi, rfl⟩
  have hD : va_D (kAy m0 r0 s.heap.size) (kY dA m0 r0 σ (th) ++ ([] : va_W)) := by rw [← kap]; exact kYD_A hr hrA
  have hP : va_P (dC, dI) vwCl (kY dA m0 r0 σ (th) ++ ([] : va_W)) s.heap := hP
  have hS : va_S (kAy m0 r0 s.heap.size) s.heap s.heap [] := va_S.rf
  have hx := B.exec
  have hb := B.bytes
  have hr9 := B.returns
  have hts := atoms_spec (ws := ww_X3_ofLeaf) B.pre
  have hown : s.vm.findClass RX3 = some m.cls := findClass_of_methodNamed B.named
  have hlocks := B.notSynchronized
  have hl := lv_entry ([.ref m0, .int (iZ z1), .int (iZ w0)]) (n := 3) (Nat.le_of_ble_eq_true rfl)
  rw [lg_entry_eq]
  generalize (lg_sl ([.ref m0, .int (iZ z1), .int (iZ w0)]) ++ List.replicate (3 - (lg_sl ([.ref m0, .int (iZ z1), .int (iZ w0)])).length) Slot.unset).toArray = ls at hl ⊢
  have hl : lv_has ls 3 [(0, .ref m0), (1, .int (iZ z1)), (2, .int (iZ w0))] := hl
  refine lv_aload_n hx hb dX3_ofLeaf_0 rfl (lv_at hl 0 rfl) ?_
  refine lv_iload_n hx hb dX3_ofLeaf_1 rfl (lv_at hl 1 rfl) ?_
  refine kc0 (fun _ q => q) (va_runS (As := [.int (iZ z1)]) (rest := [.ref m0]) ⟨hx, hb, hml, hown, hts⟩ (c_X3_isNo l _ (z1) (by first | omega | (unfold sgn; (try split) <;> omega))) (va_cwS 1 hts (kg_S mw1021 mw1022 mw47 rfl mw1023) rfl rfl rfl hdS_X3_isNo ⟨Nat.le_of_ble_eq_true rfl, Nat.le_of_ble_eq_true rfl⟩) ⟨fun a U g mk q => q, fun U hU hW => ⟨rfl, hU⟩⟩ rfl rfl hl.1 rfl (lv_room (Nat.le_of_ble_eq_true rfl)) dX3_ofLeaf_2 ⟨Nat.le_of_ble_eq_true rfl, Nat.le_of_ble_eq_true rfl⟩) ?_
  refine lv_iload_n hx hb dX3_ofLeaf_5 rfl (lv_at hl 2 rfl) ?_
  refine kz_i2l hx hb (by first | omega | (unfold sgn; (try split) <;> omega)) dX3_ofLeaf_6 ?_
  refine lv_lconst (v := lZ 0) hx hb dX3_ofLeaf_7 rfl ?_
  refine lv_ldc2 (v := lZ 7) hx hb hown (hts _ (List.mem_cons_of_mem _ mw1254)) dX3_ofLeaf_8 ?_
  refine kc0 (fun _ q => q) (va_runS (As := [.long (lZ (w0)), .long (lZ (0)), .long (lZ (7))]) (rest := [.int (iZ (bZ (!inb ((z1)) 0 3))), .ref m0]) ⟨hx, hb, hml, hown, hts⟩ (c_X3_isIn l _ (w0) (0) (7) (by first | omega | (unfold sgn; (try split) <;> omega)) (by first | omega | (unfold sgn; (try split) <;> omega)) (by first | omega | (unfold sgn; (try split) <;> omega))) (va_cwS 3 hts (kg_S mw1025 mw1026 mw47 rfl mw1027) rfl rfl rfl hdS_X3_isIn ⟨Nat.le_of_ble_eq_true rfl, Nat.le_of_ble_eq_true rfl⟩) ⟨fun a U g mk q => q, fun U hU hW => ⟨rfl, hU⟩⟩ rfl rfl hl.1 rfl (lv_room (Nat.le_of_ble_eq_true rfl)) dX3_ofLeaf_11 ⟨Nat.le_of_ble_eq_true rfl, Nat.le_of_ble_eq_true rfl⟩) ?_
  refine kz_ifb_ne (tgt := 21) hx hb  dX3_ofLeaf_14 (by decide) (fun c_1 => ?_) (fun c_1 => ?_)
  · refine lv_iconst (v := iZ 0) hx hb dX3_ofLeaf_21 rfl ?_
    refine kc2 (va_runV (As := [.int (iZ (bZ (!inb ((z1)) 0 3))), .int (iZ (bZ false))]) (rest := []) ⟨hx, hb, hml, hown, hts⟩ (c_X3_fails l dC dI dA k m0 (r0) (σ) (th) _ (va_Pl hP) hr hOK (!inb ((z1)) 0 3) false ) (cwV 2 hts (kg_V mw1037 mw1038 mw27 mw47 rfl mw1039) rfl rfl rfl hdV_X3_fails ⟨Nat.le_of_ble_eq_true rfl, Nat.le_of_ble_eq_true rfl⟩) ⟨fun a U g mk q => ⟨q.1, q.2.1, kM_call q.2.2⟩, va_recv hM.1 hP (ci := 6) (q0 := 0) rfl rfl, fun U hU hW => ⟨rfl, hU, kM_kept hM hS hAN hU hW⟩⟩ rfl rfl hl.1 rfl (lv_room (Nat.le_of_ble_eq_true rfl)) dX3_ofLeaf_22 ⟨Nat.le_of_ble_eq_true rfl, Nat.le_of_ble_eq_true rfl⟩) hS (fun a _ h => kAy_tr hrA hS.1 a h) (fun a h => kAy_tr hrA hS.1 a h) (fun H locs hP9 hz9 hk9 hS => ?_)
    have hP : va_P (dC, dI) vwCl (kY dA m0 r0 σ (ex2 ((!inb ((z1)) 0 3)) false) ++ ([] : va_W)) _ := hP9
    have hD : va_D (kAy m0 r0 s.heap.size) (kY dA m0 r0 σ (ex2 ((!inb ((z1)) 0 3)) false) ++ ([] : va_W)) := by rw [← kap]; exact kYD_A hr hrA
    refine kz_ifb_eq (tgt := 32) hx hb  dX3_ofLeaf_25 (by decide) (fun c_2 => ?_) (fun c_2 => ?_)
    · have hX : ex2 (!inb z1 0 3) (!inb w0 0 7) = ex2 (!inb ((z1)) 0 3) false := by first | rfl | simp only [c_1, Bool.true_or, Bool.or_true, Bool.false_or, Bool.or_false, Bool.not_true, Bool.not_false]
      have hZ : ex2 (!inb z1 0 3) (!inb w0 0 7) = 0 := kf_eq hX c_2
      obtain ⟨hA9, hB9⟩ := ex2_z hZ
      simp only [Bool.or_eq_false_iff, Bool.not_eq_false', Bool.not_eq_true', inb, decide_eq_true_eq, decide_eq_false_iff_not, noThing_niff] at hA9
      simp only [Bool.or_eq_false_iff, Bool.not_eq_false', Bool.not_eq_true', inb, decide_eq_true_eq, decide_eq_false_iff_not, noThing_niff] at hB9
      obtain ⟨p1, hp1, rfl⟩ : ∃ p1 : Nat, p1 < 4 ∧ z1 = (p1 : Int) := ⟨z1.toNat, by omega, by omega⟩
      have o_p1 := kOKr hOK hp1
      have l_p1 := mlen_rng (leap (σ 0 p1)) (σ 1 p1)
      have n_p1 := dnum_rng (y := σ 5 p1) (m := σ 6 p1) (d := σ 7 p1) (by omega) (by omega) (by omega)
      have hP := kY0 hP (kf_e c_2)
      have hD := kD0 hD (kf_e c_2)
      refine lv_aload_n hx hb dX3_ofLeaf_32 rfl (lv_at hl 0 rfl) ?_
      refine lv_iload_n hx hb dX3_ofLeaf_33 rfl (lv_at hl 1 rfl) ?_
      refine lv_iload_n hx hb dX3_ofLeaf_34 rfl (lv_at hl 2 rfl) ?_
      refine kc2 (va_runV (As := [.int (iZ ((p1 : Nat) : Int)), .int (iZ w0)]) (rest := []) ⟨hx, hb, hml, hown, hts⟩ (c_X3_leafTold l dC dI dA k m0 (r0) (σ) (0) _ (va_Pl hP) hr hOK p1 (w0) hp1 (by first | omega | (unfold sgn; (try split) <;> omega))) (cwV 2 hts (kg_V mw1255 mw1256 mw34 mw47 rfl mw1257) rfl rfl rfl hdV_X3_leafTold ⟨Nat.le_of_ble_eq_true rfl, Nat.le_of_ble_eq_true rfl⟩) ⟨fun a U g mk q => ⟨q.1, q.2.1, kM_call q.2.2⟩, va_recv hM.1 hP (ci := 6) (q0 := 0) rfl rfl, fun U hU hW => ⟨rfl, hU, kM_kept hM hS hAN hU hW⟩⟩ rfl rfl hl.1 rfl (lv_room (Nat.le_of_ble_eq_true rfl)) dX3_ofLeaf_35 ⟨Nat.le_of_ble_eq_true rfl, Nat.le_of_ble_eq_true rfl⟩) hS (fun a _ h => kAy_tr hrA hS.1 a h) (fun a h => kAy_tr hrA hS.1 a h) (fun H locs hP9 hz9 hk9 hS => ?_)
      have hP : va_P (dC, dI) vwCl (kY dA m0 r0 σ (0) ++ ([] : va_W)) _ := hP9
      have hD : va_D (kAy m0 r0 s.heap.size) (kY dA m0 r0 σ (0) ++ ([] : va_W)) := by rw [← kap]; exact kYD_A hr hrA
      refine W.widen (k := 1) (n := 8) (Nat.le_of_ble_eq_true rfl) (Nat.le_of_ble_eq_true rfl) ?_
      exact W.iret (v := iZ (ofL σ p1 ((w0)))) hx hb hr9 (fun t ht hW => ⟨⟨congrArg (fun z : Int => Outcome.returned (some (Value.int (iZ z)))) (show (ofL σ p1 ((w0))) = (if ex2 (!inb ((p1 : Nat) : Int) 0 3) (!inb w0 0 7) = 0 then (ofL σ p1 w0) else 0) from by rw [if_pos hZ]; done), gY_cast ⟨r0, hr, hrA, by rw [ht]; exact va_Pl hP⟩ (show (σ) = (σ) from rfl) (show (0) = ex2 (!inb ((p1 : Nat) : Int) 0 3) (!inb w0 0 7) from hZ.symm)⟩, hS.F ht⟩) hS.2.2 dX3_ofLeaf_38
    · have hX : ex2 (!inb z1 0 3) (!inb w0 0 7) = ex2 (!inb ((z1)) 0 3) false := by first | rfl | simp only [c_1, Bool.true_or, Bool.or_true, Bool.false_or, Bool.or_false, Bool.not_true, Bool.not_false]
      have hN : ¬ ex2 (!inb z1 0 3) (!inb w0 0 7) = 0 := kf_ne hX c_2
      refine lv_iconst (v := iZ 0) hx hb dX3_ofLeaf_28 rfl ?_
      refine lv_goto (tgt := 38) hx hb dX3_ofLeaf_29 (by decide) ?_
      refine W.widen (k := 1) (n := 8) (Nat.le_of_ble_eq_true rfl) (Nat.le_of_ble_eq_true rfl) ?_
      exact W.iret (v := iZ 0) hx hb hr9 (fun t ht hW => ⟨⟨congrArg (fun z : Int => Outcome.returned (some (Value.int (iZ z)))) (show 0 = (if ex2 (!inb z1 0 3) (!inb w0 0 7) = 0 then (ofL σ (z1.toNat) w0) else 0) from by rw [if_neg hN]), gY_cast ⟨r0, hr, hrA, by rw [ht]; exact va_Pl hP⟩ (show (σ) = (σ) from rfl) (show (ex2 ((!inb ((z1)) 0 3)) false) = ex2 (!inb z1 0 3) (!inb w0 0 7) from hX.symm)⟩, hS.F ht⟩) hS.2.2 dX3_ofLeaf_38
  · refine lv_iconst (v := iZ 1) hx hb dX3_ofLeaf_17 rfl ?_
    refine lv_goto (tgt := 22) hx hb dX3_ofLeaf_18 (by decide) ?_
    refine kc2 (va_runV (As := [.int (iZ (bZ (!inb ((z1)) 0 3))), .int (iZ (bZ true))]) (rest := []) ⟨hx, hb, hml, hown, hts⟩ (c_X3_fails l dC dI dA k m0 (r0) (σ) (th) _ (va_Pl hP) hr hOK (!inb ((z1)) 0 3) true ) (cwV 2 hts (kg_V mw1037 mw1038 mw27 mw47 rfl mw1039) rfl rfl rfl hdV_X3_fails ⟨Nat.le_of_ble_eq_true rfl, Nat.le_of_ble_eq_true rfl⟩) ⟨fun a U g mk q => ⟨q.1, q.2.1, kM_call q.2.2⟩, va_recv hM.1 hP (ci := 6) (q0 := 0) rfl rfl, fun U hU hW => ⟨rfl, hU, kM_kept hM hS hAN hU hW⟩⟩ rfl rfl hl.1 rfl (lv_room (Nat.le_of_ble_eq_true rfl)) dX3_ofLeaf_22 ⟨Nat.le_of_ble_eq_true rfl, Nat.le_of_ble_eq_true rfl⟩) hS (fun a _ h => kAy_tr hrA hS.1 a h) (fun a h => kAy_tr hrA hS.1 a h) (fun H locs hP9 hz9 hk9 hS => ?_)
    have hP : va_P (dC, dI) vwCl (kY dA m0 r0 σ (ex2 ((!inb ((z1)) 0 3)) true) ++ ([] : va_W)) _ := hP9
    have hD : va_D (kAy m0 r0 s.heap.size) (kY dA m0 r0 σ (ex2 ((!inb ((z1)) 0 3)) true) ++ ([] : va_W)) := by rw [← kap]; exact kYD_A hr hrA
    refine kz_ifb_eq (tgt := 32) hx hb  dX3_ofLeaf_25 (by decide) (fun c_3 => absurd (kf_f c_3).2 (by decide)) (fun c_3 => ?_)
    have hX : ex2 (!inb z1 0 3) (!inb w0 0 7) = ex2 (!inb ((z1)) 0 3) true := by first | rfl | simp only [c_1, Bool.true_or, Bool.or_true, Bool.false_or, Bool.or_false, Bool.not_true, Bool.not_false]
    have hN : ¬ ex2 (!inb z1 0 3) (!inb w0 0 7) = 0 := kf_ne hX c_3
    refine lv_iconst (v := iZ 0) hx hb dX3_ofLeaf_28 rfl ?_
    refine lv_goto (tgt := 38) hx hb dX3_ofLeaf_29 (by decide) ?_
    refine W.widen (k := 1) (n := 8) (Nat.le_of_ble_eq_true rfl) (Nat.le_of_ble_eq_true rfl) ?_
    exact W.iret (v := iZ 0) hx hb hr9 (fun t ht hW => ⟨⟨congrArg (fun z : Int => Outcome.returned (some (Value.int (iZ z)))) (show 0 = (if ex2 (!inb z1 0 3) (!inb w0 0 7) = 0 then (ofL σ (z1.toNat) w0) else 0) from by rw [if_neg hN]), gY_cast ⟨r0, hr, hrA, by rw [ht]; exact va_Pl hP⟩ (show (σ) = (σ) from rfl) (show (ex2 ((!inb ((z1)) 0 3)) true) = ex2 (!inb z1 0 3) (!inb w0 0 7) from hX.symm)⟩, hS.F ht⟩) hS.2.2 dX3_ofLeaf_38

abbrev ww_X3_ofYear : List Cond := .code yX3_ofYear cX3_ofYear 3 (some .int) :: gT
set_option maxHeartbeats 4000000 in
set_option maxRecDepth 100000 in
theorem c_X3_ofYear (l : Launch) (dC : Nat → ClassId) (dI : Nat → Nat → Nat) (dA : Nat → ClassId) (k : Nat → Nat) (m0 : Nat) (r0 : Nat → Nat → Nat) (σ : Nat → Nat → Int) (th : Int) (H0 : Heap) (hP : va_P (dC, dI) vwCl (kY dA m0 r0 σ th) H0) (hr : kRI m0 r0 k) (hOK : kOK σ) (z1 : Int) (w0 : Int) (rz1 : -2147483648 ≤ z1 ∧ z1 < 2147483648) (rw0 : -2147483648 ≤ w0 ∧ w0 < 2147483648) : Met l yX3_ofYear ww_X3_ofYear ({ frames := 4, cells := 1, slots := 5, locals := 88 }) (va_Pc [.ref m0, .int (iZ z1), .int (iZ w0)] (fun U => U.heap = H0 ∧ kM dC dI dA k U)) (kQ2 (some (.int (iZ (if ex2 (!inb z1 0 3) (!inb w0 0 4) = 0 then (ofY σ (z1.toNat) w0) else 0)))) (gY dC dI dA k m0 r0 H0.size (σ) (ex2 (!inb z1 0 3) (!inb w0 0 4))) (kAy m0 r0 H0.size)) 1 5 (kAy m0 r0 H0.size) := by
  refine Met.ofW (cc := cX3_ofYear) (maxL := 3) (ret := (some .int)) (by decide) rfl ?_
  intro p e s m args below meth c s₁ B hml hv
  obtain ⟨rfl, hH, hM⟩ := hv
  subst hH
  have hr0 := hr
  have hAN : ∀ a, kAy m0 r0 s.heap.size a → k 0 ≤ a := fun a h => kAy_N hr0 hM.2.1.1 a h
  have hrA : ∀ i : Nat, i < 17 → kAy m0 r0 s.heap.size (kR m0 r0 i) := fun i hi => Or.inl ⟨i, hi, rfl⟩
  have hD : va_D (kAy m0 r0 s.heap.size) (kY dA m0 r0 σ (th) ++ ([] : va_W)) := by rw [← kap]; exact kYD_A hr hrA
  have hP : va_P (dC, dI) vwCl (kY dA m0 r0 σ (th) ++ ([] : va_W)) s.heap := hP
  have hS : va_S (kAy m0 r0 s.heap.size) s.heap s.heap [] := va_S.rf
  have hx := B.exec
  have hb := B.bytes
  have hr9 := B.returns
  have hts := atoms_spec (ws := ww_X3_ofYear) B.pre
  have hown : s.vm.findClass RX3 = some m.cls := findClass_of_methodNamed B.named
  have hlocks := B.notSynchronized
  have hl := lv_entry ([.ref m0, .int (iZ z1), .int (iZ w0)]) (n := 3) (Nat.le_of_ble_eq_true rfl)
  rw [lg_entry_eq]
  generalize (lg_sl ([.ref m0, .int (iZ z1), .int (iZ w0)]) ++ List.replicate (3 - (lg_sl ([.ref m0, .int (iZ z1), .int (iZ w0)])).length) Slot.unset).toArray = ls at hl ⊢
  have hl : lv_has ls 3 [(0, .ref m0), (1, .int (iZ z1)), (2, .int (iZ w0))] := hl
  refine lv_aload_n hx hb dX3_ofYear_0 rfl (lv_at hl 0 rfl) ?_
  refine lv_iload_n hx hb dX3_ofYear_1 rfl (lv_at hl 1 rfl) ?_
  refine kc0 (fun _ q => q) (va_runS (As := [.int (iZ z1)]) (rest := [.ref m0]) ⟨hx, hb, hml, hown, hts⟩ (c_X3_isNo l _ (z1) (by first | omega | (unfold sgn; (try split) <;> omega))) (va_cwS 1 hts (kg_S mw1021 mw1022 mw47 rfl mw1023) rfl rfl rfl hdS_X3_isNo ⟨Nat.le_of_ble_eq_true rfl, Nat.le_of_ble_eq_true rfl⟩) ⟨fun a U g mk q => q, fun U hU hW => ⟨rfl, hU⟩⟩ rfl rfl hl.1 rfl (lv_room (Nat.le_of_ble_eq_true rfl)) dX3_ofYear_2 ⟨Nat.le_of_ble_eq_true rfl, Nat.le_of_ble_eq_true rfl⟩) ?_
  refine lv_iload_n hx hb dX3_ofYear_5 rfl (lv_at hl 2 rfl) ?_
  refine kz_i2l hx hb (by first | omega | (unfold sgn; (try split) <;> omega)) dX3_ofYear_6 ?_
  refine lv_lconst (v := lZ 0) hx hb dX3_ofYear_7 rfl ?_
  refine lv_ldc2 (v := lZ 4) hx hb hown (hts _ (List.mem_cons_of_mem _ mw1090)) dX3_ofYear_8 ?_
  refine kc0 (fun _ q => q) (va_runS (As := [.long (lZ (w0)), .long (lZ (0)), .long (lZ (4))]) (rest := [.int (iZ (bZ (!inb ((z1)) 0 3))), .ref m0]) ⟨hx, hb, hml, hown, hts⟩ (c_X3_isIn l _ (w0) (0) (4) (by first | omega | (unfold sgn; (try split) <;> omega)) (by first | omega | (unfold sgn; (try split) <;> omega)) (by first | omega | (unfold sgn; (try split) <;> omega))) (va_cwS 3 hts (kg_S mw1025 mw1026 mw47 rfl mw1027) rfl rfl rfl hdS_X3_isIn ⟨Nat.le_of_ble_eq_true rfl, Nat.le_of_ble_eq_true rfl⟩) ⟨fun a U g mk q => q, fun U hU hW => ⟨rfl, hU⟩⟩ rfl rfl hl.1 rfl (lv_room (Nat.le_of_ble_eq_true rfl)) dX3_ofYear_11 ⟨Nat.le_of_ble_eq_true rfl, Nat.le_of_ble_eq_true rfl⟩) ?_
  refine kz_ifb_ne (tgt := 21) hx hb  dX3_ofYear_14 (by decide) (fun c_1 => ?_) (fun c_1 => ?_)
  · refine lv_iconst (v := iZ 0) hx hb dX3_ofYear_21 rfl ?_
    refine kc2 (va_runV (As := [.int (iZ (bZ (!inb ((z1)) 0 3))), .int (iZ (bZ false))]) (rest := []) ⟨hx, hb, hml, hown, hts⟩ (c_X3_fails l dC dI dA k m0 (r0) (σ) (th) _ (va_Pl hP) hr hOK (!inb ((z1)) 0 3) false ) (cwV 2 hts (kg_V mw1037 mw1038 mw27 mw47 rfl mw1039) rfl rfl rfl hdV_X3_fails ⟨Nat.le_of_ble_eq_true rfl, Nat.le_of_ble_eq_true rfl⟩) ⟨fun a U g mk q => ⟨q.1, q.2.1, kM_call q.2.2⟩, va_recv hM.1 hP (ci := 6) (q0 := 0) rfl rfl, fun U hU hW => ⟨rfl, hU, kM_kept hM hS hAN hU hW⟩⟩ rfl rfl hl.1 rfl (lv_room (Nat.le_of_ble_eq_true rfl)) dX3_ofYear_22 ⟨Nat.le_of_ble_eq_true rfl, Nat.le_of_ble_eq_true rfl⟩) hS (fun a _ h => kAy_tr hrA hS.1 a h) (fun a h => kAy_tr hrA hS.1 a h) (fun H locs hP9 hz9 hk9 hS => ?_)
    have hP : va_P (dC, dI) vwCl (kY dA m0 r0 σ (ex2 ((!inb ((z1)) 0 3)) false) ++ ([] : va_W)) _ := hP9
    have hD : va_D (kAy m0 r0 s.heap.size) (kY dA m0 r0 σ (ex2 ((!inb ((z1)) 0 3)) false) ++ ([] : va_W)) := by rw [← kap]; exact kYD_A hr hrA
    refine kz_ifb_eq (tgt := 32) hx hb  dX3_ofYear_25 (by decide) (fun c_2 => ?_) (fun c_2 => ?_)
    · have hX : ex2 (!inb z1 0 3) (!inb w0 0 4) = ex2 (!inb ((z1)) 0 3) false := by first | rfl | simp only [c_1, Bool.true_or, Bool.or_true, Bool.false_or, Bool.or_false, Bool.not_true, Bool.not_false]
      have hZ : ex2 (!inb z1 0 3) (!inb w0 0 4) = 0 := kf_eq hX c_2
      obtain ⟨hA9, hB9⟩ := ex2_z hZ
      simp only [Bool.or_eq_false_iff, Bool.not_eq_false', Bool.not_eq_true', inb, decide_eq_true_eq, decide_eq_false_iff_not, noThing_niff] at hA9
      simp only [Bool.or_eq_false_iff, Bool.not_eq_false', Bool.not_eq_true', inb, decide_eq_true_eq, decide_eq_false_iff_not, noThing_niff] at hB9
      obtain ⟨p1, hp1, rfl⟩ : ∃ p1 : Nat, p1 < 4 ∧ z1 = (p1 : Int) := ⟨z1.toNat, by omega, by omega⟩
      have o_p1 := kOKr hOK hp1
      have l_p1 := mlen_rng (leap (σ 0 p1)) (σ 1 p1)
      have n_p1 := dnum_rng (y := σ 5 p1) (m := σ 6 p1) (d := σ 7 p1) (by omega) (by omega) (by omega)
      have hP := kY0 hP (kf_e c_2)
      have hD := kD0 hD (kf_e c_2)
      refine lv_aload_n hx hb dX3_ofYear_32 rfl (lv_at hl 0 rfl) ?_
      refine lv_iload_n hx hb dX3_ofYear_33 rfl (lv_at hl 1 rfl) ?_
      refine lv_iload_n hx hb dX3_ofYear_34 rfl (lv_at hl 2 rfl) ?_
      refine kc2 (va_runV (As := [.int (iZ ((p1 : Nat) : Int)), .int (iZ w0)]) (rest := []) ⟨hx, hb, hml, hown, hts⟩ (c_X3_yearTold l dC dI dA k m0 (r0) (σ) (0) _ (va_Pl hP) hr hOK p1 (w0) hp1 (by first | omega | (unfold sgn; (try split) <;> omega))) (cwV 2 hts (kg_V mw1325 mw1326 mw37 mw47 rfl mw1327) rfl rfl rfl hdV_X3_yearTold ⟨Nat.le_of_ble_eq_true rfl, Nat.le_of_ble_eq_true rfl⟩) ⟨fun a U g mk q => ⟨q.1, q.2.1, kM_call q.2.2⟩, va_recv hM.1 hP (ci := 6) (q0 := 0) rfl rfl, fun U hU hW => ⟨rfl, hU, kM_kept hM hS hAN hU hW⟩⟩ rfl rfl hl.1 rfl (lv_room (Nat.le_of_ble_eq_true rfl)) dX3_ofYear_35 ⟨Nat.le_of_ble_eq_true rfl, Nat.le_of_ble_eq_true rfl⟩) hS (fun a _ h => kAy_tr hrA hS.1 a h) (fun a h => kAy_tr hrA hS.1 a h) (fun H locs hP9 hz9 hk9 hS => ?_)
      have hP : va_P (dC, dI) vwCl (kY dA m0 r0 σ (0) ++ ([] : va_W)) _ := hP9
      have hD : va_D (kAy m0 r0 s.heap.size) (kY dA m0 r0 σ (0) ++ ([] : va_W)) := by rw [← kap]; exact kYD_A hr hrA
      refine W.widen (k := 1) (n := 5) (Nat.le_of_ble_eq_true rfl) (Nat.le_of_ble_eq_true rfl) ?_
      exact W.iret (v := iZ (ofY σ p1 ((w0)))) hx hb hr9 (fun t ht hW => ⟨⟨congrArg (fun z : Int => Outcome.returned (some (Value.int (iZ z)))) (show (ofY σ p1 ((w0))) = (if ex2 (!inb ((p1 : Nat) : Int) 0 3) (!inb w0 0 4) = 0 then (ofY σ p1 w0) else 0) from by rw [if_pos hZ]; done), gY_cast ⟨r0, hr, hrA, by rw [ht]; exact va_Pl hP⟩ (show (σ) = (σ) from rfl) (show (0) = ex2 (!inb ((p1 : Nat) : Int) 0 3) (!inb w0 0 4) from hZ.symm)⟩, hS.F ht⟩) hS.2.2 dX3_ofYear_38
    · have hX : ex2 (!inb z1 0 3) (!inb w0 0 4) = ex2 (!inb ((z1)) 0 3) false := by first | rfl | simp only [c_1, Bool.true_or, Bool.or_true, Bool.false_or, Bool.or_false, Bool.not_true, Bool.not_false]
      have hN : ¬ ex2 (!inb z1 0 3) (!inb w0 0 4) = 0 := kf_ne hX c_2
      refine lv_iconst (v := iZ 0) hx hb dX3_ofYear_28 rfl ?_
      refine lv_goto (tgt := 38) hx hb dX3_ofYear_29 (by decide) ?_
      refine W.widen (k := 1) (n := 5) (Nat.le_of_ble_eq_true rfl) (Nat.le_of_ble_eq_true rfl) ?_
      exact W.iret (v := iZ 0) hx hb hr9 (fun t ht hW => ⟨⟨congrArg (fun z : Int => Outcome.returned (some (Value.int (iZ z)))) (show 0 = (if ex2 (!inb z1 0 3) (!inb w0 0 4) = 0 then (ofY σ (z1.toNat) w0) else 0) from by rw [if_neg hN]), gY_cast ⟨r0, hr, hrA, by rw [ht]; exact va_Pl hP⟩ (show (σ) = (σ) from rfl) (show (ex2 ((!inb ((z1)) 0 3)) false) = ex2 (!inb z1 0 3) (!inb w0 0 4) from hX.symm)⟩, hS.F ht⟩) hS.2.2 dX3_ofYear_38
  · refine lv_iconst (v := iZ 1) hx hb dX3_ofYear_17 rfl ?_
    refine lv_goto (tgt := 22) hx hb dX3_ofYear_18 (by decide) ?_
    refine kc2 (va_runV (As := [.int (iZ (bZ (!inb ((z1)) 0 3))), .int (iZ (bZ true))]) (rest := []) ⟨hx, hb, hml, hown, hts⟩ (c_X3_fails l dC dI dA k m0 (r0) (σ) (th) _ (va_Pl hP) hr hOK (!inb ((z1)) 0 3) true ) (cwV 2 hts (kg_V mw1037 mw1038 mw27 mw47 rfl mw1039) rfl rfl rfl hdV_X3_fails ⟨Nat.le_of_ble_eq_true rfl, Nat.le_of_ble_eq_true rfl⟩) ⟨fun a U g mk q => ⟨q.1, q.2.1, kM_call q.2.2⟩, va_recv hM.1 hP (ci := 6) (q0 := 0) rfl rfl, fun U hU hW => ⟨rfl, hU, kM_kept hM hS hAN hU hW⟩⟩ rfl rfl hl.1 rfl (lv_room (Nat.le_of_ble_eq_true rfl)) dX3_ofYear_22 ⟨Nat.le_of_ble_eq_true rfl, Nat.le_of_ble_eq_true rfl⟩) hS (fun a _ h => kAy_tr hrA hS.1 a h) (fun a h => kAy_tr hrA hS.1 a h) (fun H locs hP9 hz9 hk9 hS => ?_)
    have hP : va_P (dC, dI) vwCl (kY dA m0 r0 σ (ex2 ((!inb ((z1)) 0 3)) true) ++ ([] : va_W)) _ := hP9
    have hD : va_D (kAy m0 r0 s.heap.size) (kY dA m0 r0 σ (ex2 ((!inb ((z1)) 0 3)) true) ++ ([] : va_W)) := by rw [← kap]; exact kYD_A hr hrA
    refine kz_ifb_eq (tgt := 32) hx hb  dX3_ofYear_25 (by decide) (fun c_3 => absurd (kf_f c_3).2 (by decide)) (fun c_3 => ?_)
    have hX : ex2 (!inb z1 0 3) (!inb w0 0 4) = ex2 (!inb ((z1)) 0 3) true := by first | rfl | simp only [c_1, Bool.true_or, Bool.or_true, Bool.false_or, Bool.or_false, Bool.not_true, Bool.not_false]
    have hN : ¬ ex2 (!inb z1 0 3) (!inb w0 0 4) = 0 := kf_ne hX c_3
    refine lv_iconst (v := iZ 0) hx hb dX3_ofYear_28 rfl ?_
    refine lv_goto (tgt := 38) hx hb dX3_ofYear_29 (by decide) ?_
    refine W.widen (k := 1) (n := 5) (Nat.le_of_ble_eq_true rfl) (Nat.le_of_ble_eq_true rfl) ?_
    exact W.iret (v := iZ 0) hx hb hr9 (fun t ht hW => ⟨⟨congrArg (fun z : Int => Outcome.returned (some (Value.int (iZ z)))) (show 0 = (if ex2 (!inb z1 0 3) (!inb w0 0 4) = 0 then (ofY σ (z1.toNat) w0) else 0) from by rw [if_neg hN]), gY_cast ⟨r0, hr, hrA, by rw [ht]; exact va_Pl hP⟩ (show (σ) = (σ) from rfl) (show (ex2 ((!inb ((z1)) 0 3)) true) = ex2 (!inb z1 0 3) (!inb w0 0 4) from hX.symm)⟩, hS.F ht⟩) hS.2.2 dX3_ofYear_38

abbrev ww_X3_ofFeast : List Cond := .code yX3_ofFeast cX3_ofFeast 3 (some .int) :: gT
set_option maxHeartbeats 4000000 in
set_option maxRecDepth 100000 in
theorem c_X3_ofFeast (l : Launch) (dC : Nat → ClassId) (dI : Nat → Nat → Nat) (dA : Nat → ClassId) (k : Nat → Nat) (m0 : Nat) (r0 : Nat → Nat → Nat) (σ : Nat → Nat → Int) (th : Int) (H0 : Heap) (hP : va_P (dC, dI) vwCl (kY dA m0 r0 σ th) H0) (hr : kRI m0 r0 k) (hOK : kOK σ) (z1 : Int) (w0 : Int) (rz1 : -2147483648 ≤ z1 ∧ z1 < 2147483648) (rw0 : -2147483648 ≤ w0 ∧ w0 < 2147483648) : Met l yX3_ofFeast ww_X3_ofFeast ({ frames := 4, cells := 1, slots := 5, locals := 89 }) (va_Pc [.ref m0, .int (iZ z1), .int (iZ w0)] (fun U => U.heap = H0 ∧ kM dC dI dA k U)) (kQ2 (some (.int (iZ (if ex2 (!inb z1 0 3) (!inb w0 0 4) = 0 then (ofF σ (z1.toNat) w0) else 0)))) (gY dC dI dA k m0 r0 H0.size (σ) (ex2 (!inb z1 0 3) (!inb w0 0 4))) (kAy m0 r0 H0.size)) 1 5 (kAy m0 r0 H0.size) := by
  refine Met.ofW (cc := cX3_ofFeast) (maxL := 3) (ret := (some .int)) (by decide) rfl ?_
  intro p e s m args below meth c s₁ B hml hv
  obtain ⟨rfl, hH, hM⟩ := hv
  subst hH
  have hr0 := hr
  have hAN : ∀ a, kAy m0 r0 s.heap.size a → k 0 ≤ a := fun a h => kAy_N hr0 hM.2.1.1 a h
  have hrA : ∀ i : Nat, i < 17 → kAy m0 r0 s.heap.size (kR m0 r0 i) := fun i hi => Or.inl ⟨i, hi, rfl⟩
  have hD : va_D (kAy m0 r0 s.heap.size) (kY dA m0 r0 σ (th) ++ ([] : va_W)) := by rw [← kap]; exact kYD_A hr hrA
  have hP : va_P (dC, dI) vwCl (kY dA m0 r0 σ (th) ++ ([] : va_W)) s.heap := hP
  have hS : va_S (kAy m0 r0 s.heap.size) s.heap s.heap [] := va_S.rf
  have hx := B.exec
  have hb := B.bytes
  have hr9 := B.returns
  have hts := atoms_spec (ws := ww_X3_ofFeast) B.pre
  have hown : s.vm.findClass RX3 = some m.cls := findClass_of_methodNamed B.named
  have hlocks := B.notSynchronized
  have hl := lv_entry ([.ref m0, .int (iZ z1), .int (iZ w0)]) (n := 3) (Nat.le_of_ble_eq_true rfl)
  rw [lg_entry_eq]
  generalize (lg_sl ([.ref m0, .int (iZ z1), .int (iZ w0)]) ++ List.replicate (3 - (lg_sl ([.ref m0, .int (iZ z1), .int (iZ w0)])).length) Slot.unset).toArray = ls at hl ⊢
  have hl : lv_has ls 3 [(0, .ref m0), (1, .int (iZ z1)), (2, .int (iZ w0))] := hl
  refine lv_aload_n hx hb dX3_ofFeast_0 rfl (lv_at hl 0 rfl) ?_
  refine lv_iload_n hx hb dX3_ofFeast_1 rfl (lv_at hl 1 rfl) ?_
  refine kc0 (fun _ q => q) (va_runS (As := [.int (iZ z1)]) (rest := [.ref m0]) ⟨hx, hb, hml, hown, hts⟩ (c_X3_isNo l _ (z1) (by first | omega | (unfold sgn; (try split) <;> omega))) (va_cwS 1 hts (kg_S mw1021 mw1022 mw47 rfl mw1023) rfl rfl rfl hdS_X3_isNo ⟨Nat.le_of_ble_eq_true rfl, Nat.le_of_ble_eq_true rfl⟩) ⟨fun a U g mk q => q, fun U hU hW => ⟨rfl, hU⟩⟩ rfl rfl hl.1 rfl (lv_room (Nat.le_of_ble_eq_true rfl)) dX3_ofFeast_2 ⟨Nat.le_of_ble_eq_true rfl, Nat.le_of_ble_eq_true rfl⟩) ?_
  refine lv_iload_n hx hb dX3_ofFeast_5 rfl (lv_at hl 2 rfl) ?_
  refine kz_i2l hx hb (by first | omega | (unfold sgn; (try split) <;> omega)) dX3_ofFeast_6 ?_
  refine lv_lconst (v := lZ 0) hx hb dX3_ofFeast_7 rfl ?_
  refine lv_ldc2 (v := lZ 4) hx hb hown (hts _ (List.mem_cons_of_mem _ mw1090)) dX3_ofFeast_8 ?_
  refine kc0 (fun _ q => q) (va_runS (As := [.long (lZ (w0)), .long (lZ (0)), .long (lZ (4))]) (rest := [.int (iZ (bZ (!inb ((z1)) 0 3))), .ref m0]) ⟨hx, hb, hml, hown, hts⟩ (c_X3_isIn l _ (w0) (0) (4) (by first | omega | (unfold sgn; (try split) <;> omega)) (by first | omega | (unfold sgn; (try split) <;> omega)) (by first | omega | (unfold sgn; (try split) <;> omega))) (va_cwS 3 hts (kg_S mw1025 mw1026 mw47 rfl mw1027) rfl rfl rfl hdS_X3_isIn ⟨Nat.le_of_ble_eq_true rfl, Nat.le_of_ble_eq_true rfl⟩) ⟨fun a U g mk q => q, fun U hU hW => ⟨rfl, hU⟩⟩ rfl rfl hl.1 rfl (lv_room (Nat.le_of_ble_eq_true rfl)) dX3_ofFeast_11 ⟨Nat.le_of_ble_eq_true rfl, Nat.le_of_ble_eq_true rfl⟩) ?_
  refine kz_ifb_ne (tgt := 21) hx hb  dX3_ofFeast_14 (by decide) (fun c_1 => ?_) (fun c_1 => ?_)
  · refine lv_iconst (v := iZ 0) hx hb dX3_ofFeast_21 rfl ?_
    refine kc2 (va_runV (As := [.int (iZ (bZ (!inb ((z1)) 0 3))), .int (iZ (bZ false))]) (rest := []) ⟨hx, hb, hml, hown, hts⟩ (c_X3_fails l dC dI dA k m0 (r0) (σ) (th) _ (va_Pl hP) hr hOK (!inb ((z1)) 0 3) false ) (cwV 2 hts (kg_V mw1037 mw1038 mw27 mw47 rfl mw1039) rfl rfl rfl hdV_X3_fails ⟨Nat.le_of_ble_eq_true rfl, Nat.le_of_ble_eq_true rfl⟩) ⟨fun a U g mk q => ⟨q.1, q.2.1, kM_call q.2.2⟩, va_recv hM.1 hP (ci := 6) (q0 := 0) rfl rfl, fun U hU hW => ⟨rfl, hU, kM_kept hM hS hAN hU hW⟩⟩ rfl rfl hl.1 rfl (lv_room (Nat.le_of_ble_eq_true rfl)) dX3_ofFeast_22 ⟨Nat.le_of_ble_eq_true rfl, Nat.le_of_ble_eq_true rfl⟩) hS (fun a _ h => kAy_tr hrA hS.1 a h) (fun a h => kAy_tr hrA hS.1 a h) (fun H locs hP9 hz9 hk9 hS => ?_)
    have hP : va_P (dC, dI) vwCl (kY dA m0 r0 σ (ex2 ((!inb ((z1)) 0 3)) false) ++ ([] : va_W)) _ := hP9
    have hD : va_D (kAy m0 r0 s.heap.size) (kY dA m0 r0 σ (ex2 ((!inb ((z1)) 0 3)) false) ++ ([] : va_W)) := by rw [← kap]; exact kYD_A hr hrA
    refine kz_ifb_eq (tgt := 32) hx hb  dX3_ofFeast_25 (by decide) (fun c_2 => ?_) (fun c_2 => ?_)
    · have hX : ex2 (!inb z1 0 3) (!inb w0 0 4) = ex2 (!inb ((z1)) 0 3) false := by first | rfl | simp only [c_1, Bool.true_or, Bool.or_true, Bool.false_or, Bool.or_false, Bool.not_true, Bool.not_false]
      have hZ : ex2 (!inb z1 0 3) (!inb w0 0 4) = 0 := kf_eq hX c_2
      obtain ⟨hA9, hB9⟩ := ex2_z hZ
      simp only [Bool.or_eq_false_iff, Bool.not_eq_false', Bool.not_eq_true', inb, decide_eq_true_eq, decide_eq_false_iff_not, noThing_niff] at hA9
      simp only [Bool.or_eq_false_iff, Bool.not_eq_false', Bool.not_eq_true', inb, decide_eq_true_eq, decide_eq_false_iff_not, noThing_niff] at hB9
      obtain ⟨p1, hp1, rfl⟩ : ∃ p1 : Nat, p1 < 4 ∧ z1 = (p1 : Int) := ⟨z1.toNat, by omega, by omega⟩
      have o_p1 := kOKr hOK hp1
      have l_p1 := mlen_rng (leap (σ 0 p1)) (σ 1 p1)
      have n_p1 := dnum_rng (y := σ 5 p1) (m := σ 6 p1) (d := σ 7 p1) (by omega) (by omega) (by omega)
      have hP := kY0 hP (kf_e c_2)
      have hD := kD0 hD (kf_e c_2)
      refine lv_aload_n hx hb dX3_ofFeast_32 rfl (lv_at hl 0 rfl) ?_
      refine lv_iload_n hx hb dX3_ofFeast_33 rfl (lv_at hl 1 rfl) ?_
      refine lv_iload_n hx hb dX3_ofFeast_34 rfl (lv_at hl 2 rfl) ?_
      refine kc2 (va_runV (As := [.int (iZ ((p1 : Nat) : Int)), .int (iZ w0)]) (rest := []) ⟨hx, hb, hml, hown, hts⟩ (c_X3_feastTold l dC dI dA k m0 (r0) (σ) (0) _ (va_Pl hP) hr hOK p1 (w0) hp1 (by first | omega | (unfold sgn; (try split) <;> omega))) (cwV 2 hts (kg_V mw1352 mw1353 mw38 mw47 rfl mw1354) rfl rfl rfl hdV_X3_feastTold ⟨Nat.le_of_ble_eq_true rfl, Nat.le_of_ble_eq_true rfl⟩) ⟨fun a U g mk q => ⟨q.1, q.2.1, kM_call q.2.2⟩, va_recv hM.1 hP (ci := 6) (q0 := 0) rfl rfl, fun U hU hW => ⟨rfl, hU, kM_kept hM hS hAN hU hW⟩⟩ rfl rfl hl.1 rfl (lv_room (Nat.le_of_ble_eq_true rfl)) dX3_ofFeast_35 ⟨Nat.le_of_ble_eq_true rfl, Nat.le_of_ble_eq_true rfl⟩) hS (fun a _ h => kAy_tr hrA hS.1 a h) (fun a h => kAy_tr hrA hS.1 a h) (fun H locs hP9 hz9 hk9 hS => ?_)
      have hP : va_P (dC, dI) vwCl (kY dA m0 r0 σ (0) ++ ([] : va_W)) _ := hP9
      have hD : va_D (kAy m0 r0 s.heap.size) (kY dA m0 r0 σ (0) ++ ([] : va_W)) := by rw [← kap]; exact kYD_A hr hrA
      refine W.widen (k := 1) (n := 5) (Nat.le_of_ble_eq_true rfl) (Nat.le_of_ble_eq_true rfl) ?_
      exact W.iret (v := iZ (ofF σ p1 ((w0)))) hx hb hr9 (fun t ht hW => ⟨⟨congrArg (fun z : Int => Outcome.returned (some (Value.int (iZ z)))) (show (ofF σ p1 ((w0))) = (if ex2 (!inb ((p1 : Nat) : Int) 0 3) (!inb w0 0 4) = 0 then (ofF σ p1 w0) else 0) from by rw [if_pos hZ]; done), gY_cast ⟨r0, hr, hrA, by rw [ht]; exact va_Pl hP⟩ (show (σ) = (σ) from rfl) (show (0) = ex2 (!inb ((p1 : Nat) : Int) 0 3) (!inb w0 0 4) from hZ.symm)⟩, hS.F ht⟩) hS.2.2 dX3_ofFeast_38
    · have hX : ex2 (!inb z1 0 3) (!inb w0 0 4) = ex2 (!inb ((z1)) 0 3) false := by first | rfl | simp only [c_1, Bool.true_or, Bool.or_true, Bool.false_or, Bool.or_false, Bool.not_true, Bool.not_false]
      have hN : ¬ ex2 (!inb z1 0 3) (!inb w0 0 4) = 0 := kf_ne hX c_2
      refine lv_iconst (v := iZ 0) hx hb dX3_ofFeast_28 rfl ?_
      refine lv_goto (tgt := 38) hx hb dX3_ofFeast_29 (by decide) ?_
      refine W.widen (k := 1) (n := 5) (Nat.le_of_ble_eq_true rfl) (Nat.le_of_ble_eq_true rfl) ?_
      exact W.iret (v := iZ 0) hx hb hr9 (fun t ht hW => ⟨⟨congrArg (fun z : Int => Outcome.returned (some (Value.int (iZ z)))) (show 0 = (if ex2 (!inb z1 0 3) (!inb w0 0 4) = 0 then (ofF σ (z1.toNat) w0) else 0) from by rw [if_neg hN]), gY_cast ⟨r0, hr, hrA, by rw [ht]; exact va_Pl hP⟩ (show (σ) = (σ) from rfl) (show (ex2 ((!inb ((z1)) 0 3)) false) = ex2 (!inb z1 0 3) (!inb w0 0 4) from hX.symm)⟩, hS.F ht⟩) hS.2.2 dX3_ofFeast_38
  · refine lv_iconst (v := iZ 1) hx hb dX3_ofFeast_17 rfl ?_
    refine lv_goto (tgt := 22) hx hb dX3_ofFeast_18 (by decide) ?_
    refine kc2 (va_runV (As := [.int (iZ (bZ (!inb ((z1)) 0 3))), .int (iZ (bZ true))]) (rest := []) ⟨hx, hb, hml, hown, hts⟩ (c_X3_fails l dC dI dA k m0 (r0) (σ) (th) _ (va_Pl hP) hr hOK (!inb ((z1)) 0 3) true ) (cwV 2 hts (kg_V mw1037 mw1038 mw27 mw47 rfl mw1039) rfl rfl rfl hdV_X3_fails ⟨Nat.le_of_ble_eq_true rfl, Nat.le_of_ble_eq_true rfl⟩) ⟨fun a U g mk q => ⟨q.1, q.2.1, kM_call q.2.2⟩, va_recv hM.1 hP (ci := 6) (q0 := 0) rfl rfl, fun U hU hW => ⟨rfl, hU, kM_kept hM hS hAN hU hW⟩⟩ rfl rfl hl.1 rfl (lv_room (Nat.le_of_ble_eq_true rfl)) dX3_ofFeast_22 ⟨Nat.le_of_ble_eq_true rfl, Nat.le_of_ble_eq_true rfl⟩) hS (fun a _ h => kAy_tr hrA hS.1 a h) (fun a h => kAy_tr hrA hS.1 a h) (fun H locs hP9 hz9 hk9 hS => ?_)
    have hP : va_P (dC, dI) vwCl (kY dA m0 r0 σ (ex2 ((!inb ((z1)) 0 3)) true) ++ ([] : va_W)) _ := hP9
    have hD : va_D (kAy m0 r0 s.heap.size) (kY dA m0 r0 σ (ex2 ((!inb ((z1)) 0 3)) true) ++ ([] : va_W)) := by rw [← kap]; exact kYD_A hr hrA
    refine kz_ifb_eq (tgt := 32) hx hb  dX3_ofFeast_25 (by decide) (fun c_3 => absurd (kf_f c_3).2 (by decide)) (fun c_3 => ?_)
    have hX : ex2 (!inb z1 0 3) (!inb w0 0 4) = ex2 (!inb ((z1)) 0 3) true := by first | rfl | simp only [c_1, Bool.true_or, Bool.or_true, Bool.false_or, Bool.or_false, Bool.not_true, Bool.not_false]
    have hN : ¬ ex2 (!inb z1 0 3) (!inb w0 0 4) = 0 := kf_ne hX c_3
    refine lv_iconst (v := iZ 0) hx hb dX3_ofFeast_28 rfl ?_
    refine lv_goto (tgt := 38) hx hb dX3_ofFeast_29 (by decide) ?_
    refine W.widen (k := 1) (n := 5) (Nat.le_of_ble_eq_true rfl) (Nat.le_of_ble_eq_true rfl) ?_
    exact W.iret (v := iZ 0) hx hb hr9 (fun t ht hW => ⟨⟨congrArg (fun z : Int => Outcome.returned (some (Value.int (iZ z)))) (show 0 = (if ex2 (!inb z1 0 3) (!inb w0 0 4) = 0 then (ofF σ (z1.toNat) w0) else 0) from by rw [if_neg hN]), gY_cast ⟨r0, hr, hrA, by rw [ht]; exact va_Pl hP⟩ (show (σ) = (σ) from rfl) (show (ex2 ((!inb ((z1)) 0 3)) true) = ex2 (!inb z1 0 3) (!inb w0 0 4) from hX.symm)⟩, hS.F ht⟩) hS.2.2 dX3_ofFeast_38

abbrev ww_X3_dayTold : List Cond := .code yX3_dayTold cX3_dayTold 5 (some .int) :: gT
set_option maxHeartbeats 4000000 in
set_option maxRecDepth 100000 in
theorem c_X3_dayTold (l : Launch) (dC : Nat → ClassId) (dI : Nat → Nat → Nat) (dA : Nat → ClassId) (k : Nat → Nat) (m0 : Nat) (r0 : Nat → Nat → Nat) (σ : Nat → Nat → Int) (th : Int) (H0 : Heap) (hP : va_P (dC, dI) vwCl (kY dA m0 r0 σ th) H0) (hr : kRI m0 r0 k) (hOK : kOK σ) (pj : Nat) (w0 : Int) (hpj : pj < 4) (h0 : 0 ≤ w0 ∧ w0 ≤ 5) : Met l yX3_dayTold ww_X3_dayTold ({ frames := 6, cells := 1, slots := 6, locals := 133 }) (va_Pc [.ref m0, .int (iZ ((pj : Nat) : Int)), .int (iZ w0)] (fun U => U.heap = H0 ∧ kM dC dI dA k U)) (kQ2 (some (.int (iZ (ofD σ pj w0)))) (fun H => va_P (dC, dI) vwCl (kY dA m0 r0 (σ) (th)) H) (kAy m0 r0 H0.size)) 1 6 (kAy m0 r0 H0.size) := by
  refine Met.ofW (cc := cX3_dayTold) (maxL := 5) (ret := (some .int)) (by decide) rfl ?_
  intro p e s m args below meth c s₁ B hml hv
  obtain ⟨rfl, hH, hM⟩ := hv
  subst hH
  have hr0 := hr
  have hAN : ∀ a, kAy m0 r0 s.heap.size a → k 0 ≤ a := fun a h => kAy_N hr0 hM.2.1.1 a h
  have hrA : ∀ i : Nat, i < 17 → kAy m0 r0 s.heap.size (kR m0 r0 i) := fun i hi => Or.inl ⟨i, hi, rfl⟩
  have hD : va_D (kAy m0 r0 s.heap.size) (kY dA m0 r0 σ (th) ++ ([] : va_W)) := by rw [← kap]; exact kYD_A hr hrA
  have hP : va_P (dC, dI) vwCl (kY dA m0 r0 σ (th) ++ ([] : va_W)) s.heap := hP
  have hS : va_S (kAy m0 r0 s.heap.size) s.heap s.heap [] := va_S.rf
  have o_pj := kOKr hOK hpj
  have hx := B.exec
  have hb := B.bytes
  have hr9 := B.returns
  have hts := atoms_spec (ws := ww_X3_dayTold) B.pre
  have hown : s.vm.findClass RX3 = some m.cls := findClass_of_methodNamed B.named
  have hlocks := B.notSynchronized
  have hl := lv_entry ([.ref m0, .int (iZ ((pj : Nat) : Int)), .int (iZ w0)]) (n := 5) (Nat.le_of_ble_eq_true rfl)
  rw [lg_entry_eq]
  generalize (lg_sl ([.ref m0, .int (iZ ((pj : Nat) : Int)), .int (iZ w0)]) ++ List.replicate (5 - (lg_sl ([.ref m0, .int (iZ ((pj : Nat) : Int)), .int (iZ w0)])).length) Slot.unset).toArray = ls at hl ⊢
  have hl : lv_has ls 5 [(0, .ref m0), (1, .int (iZ ((pj : Nat) : Int))), (2, .int (iZ w0))] := hl
  refine lv_aload_n hx hb dX3_dayTold_0 rfl (lv_at hl 0 rfl) ?_
  refine va_get (D := (dC, dI)) (ci := 6) (v := .ref (r0 0 4)) (C := RX3) (T := TX3) (N := 6) hx hb hts (fun w h => List.mem_cons_of_mem _ (gF_2_in h)) hown hM.1 hP 0 rfl rfl 3 (by decide) (hts _ (List.mem_cons_of_mem _ mw1010)) (fun _ h9 => h9) rfl dX3_dayTold_1 ?_
  refine lv_iload_n hx hb dX3_dayTold_4 rfl (lv_at hl 1 rfl) ?_
  refine kz_aald (v := r0 3 pj) hx hb hM.1 hP 4 rfl (by omega) (by decide) rfl dX3_dayTold_5 ?_
  refine lv_astore_n (lv' := [(3, .ref (r0 3 pj)), (0, .ref m0), (1, .int (iZ ((pj : Nat) : Int))), (2, .int (iZ w0))]) hx hb dX3_dayTold_6 rfl hl (by decide) rfl (fun ls hl => ?_)
  refine lv_bipush (v := iZ 6) hx hb dX3_dayTold_7 rfl ?_
  refine kz_newI (N := 6) hx hb (hts _ (List.mem_cons_of_mem _ mw95)) hM.1 hP hD hS kAy_new (by decide) (Nat.le_of_ble_eq_true rfl) (Nat.le_of_ble_eq_true rfl) dX3_dayTold_9 (fun v_1 H hP hD hS => ?_)
  have hP : va_P (dC, dI) vwCl (kY dA m0 r0 σ (th) ++ ([(v_1, .inl (dA 0, 6, .inl (fun _ => 0)))] : va_W)) _ := hP
  have hD : va_D (kAy m0 r0 s.heap.size) (kY dA m0 r0 σ (th) ++ ([(v_1, .inl (dA 0, 6, .inl (fun _ => 0)))] : va_W)) := hD
  refine lv_dup hx hb dX3_dayTold_11 rfl ?_
  refine lv_iconst (v := iZ 0) hx hb dX3_dayTold_12 rfl ?_
  refine lv_aload_n hx hb dX3_dayTold_13 rfl (lv_at hl 0 rfl) ?_
  refine lv_iconst (v := iZ 0) hx hb dX3_dayTold_14 rfl ?_
  refine kz_iald (v := σ 5 pj) hx hb hM.1 hP (13 + pj) 0 (kY_D _ hpj) rfl (by omega) (by decide) rfl dX3_dayTold_15 ?_
  refine kz_iast hx hb hM.1 hP hD hS 17 rfl (by omega) (by decide) dX3_dayTold_16 (fun H locs hP hD hS => ?_)
  have hP : va_P (dC, dI) vwCl (kY dA m0 r0 σ (th) ++ ([(v_1, .inl (dA 0, 6, .inl (upd (fun _ => 0) 0 (iZ (σ 5 pj)))))] : va_W)) _ := hP
  have hD : va_D (kAy m0 r0 s.heap.size) (kY dA m0 r0 σ (th) ++ ([(v_1, .inl (dA 0, 6, .inl (upd (fun _ => 0) 0 (iZ (σ 5 pj)))))] : va_W)) := hD
  refine lv_dup hx hb dX3_dayTold_17 rfl ?_
  refine lv_iconst (v := iZ 1) hx hb dX3_dayTold_18 rfl ?_
  refine lv_aload_n hx hb dX3_dayTold_19 rfl (lv_at hl 0 rfl) ?_
  refine lv_iconst (v := iZ 1) hx hb dX3_dayTold_20 rfl ?_
  refine kz_iald (v := σ 6 pj) hx hb hM.1 hP (13 + pj) 0 (kY_D _ hpj) rfl (by omega) (by decide) rfl dX3_dayTold_21 ?_
  refine kz_iast hx hb hM.1 hP hD hS 17 rfl (by omega) (by decide) dX3_dayTold_22 (fun H locs hP hD hS => ?_)
  have hP : va_P (dC, dI) vwCl (kY dA m0 r0 σ (th) ++ ([(v_1, .inl (dA 0, 6, .inl (upd (upd (fun _ => 0) 0 (iZ (σ 5 pj))) 1 (iZ (σ 6 pj)))))] : va_W)) _ := hP
  have hD : va_D (kAy m0 r0 s.heap.size) (kY dA m0 r0 σ (th) ++ ([(v_1, .inl (dA 0, 6, .inl (upd (upd (fun _ => 0) 0 (iZ (σ 5 pj))) 1 (iZ (σ 6 pj)))))] : va_W)) := hD
  refine lv_dup hx hb dX3_dayTold_23 rfl ?_
  refine lv_iconst (v := iZ 2) hx hb dX3_dayTold_24 rfl ?_
  refine lv_aload_n hx hb dX3_dayTold_25 rfl (lv_at hl 0 rfl) ?_
  refine lv_iconst (v := iZ 2) hx hb dX3_dayTold_26 rfl ?_
  refine kz_iald (v := σ 7 pj) hx hb hM.1 hP (13 + pj) 0 (kY_D _ hpj) rfl (by omega) (by decide) rfl dX3_dayTold_27 ?_
  refine kz_iast hx hb hM.1 hP hD hS 17 rfl (by omega) (by decide) dX3_dayTold_28 (fun H locs hP hD hS => ?_)
  have hP : va_P (dC, dI) vwCl (kY dA m0 r0 σ (th) ++ ([(v_1, .inl (dA 0, 6, .inl (upd (upd (upd (fun _ => 0) 0 (iZ (σ 5 pj))) 1 (iZ (σ 6 pj))) 2 (iZ (σ 7 pj)))))] : va_W)) _ := hP
  have hD : va_D (kAy m0 r0 s.heap.size) (kY dA m0 r0 σ (th) ++ ([(v_1, .inl (dA 0, 6, .inl (upd (upd (upd (fun _ => 0) 0 (iZ (σ 5 pj))) 1 (iZ (σ 6 pj))) 2 (iZ (σ 7 pj)))))] : va_W)) := hD
  refine lv_dup hx hb dX3_dayTold_29 rfl ?_
  refine lv_iconst (v := iZ 3) hx hb dX3_dayTold_30 rfl ?_
  refine lv_aload_n hx hb dX3_dayTold_31 rfl (lv_at hl 0 rfl) ?_
  refine lv_iconst (v := iZ 0) hx hb dX3_dayTold_32 rfl ?_
  refine kz_iald (v := σ 5 pj) hx hb hM.1 hP (13 + pj) 0 (kY_D _ hpj) rfl (by omega) (by decide) rfl dX3_dayTold_33 ?_
  refine lv_aload_n hx hb dX3_dayTold_34 rfl (lv_at hl 0 rfl) ?_
  refine lv_iconst (v := iZ 1) hx hb dX3_dayTold_35 rfl ?_
  refine kz_iald (v := σ 6 pj) hx hb hM.1 hP (13 + pj) 0 (kY_D _ hpj) rfl (by omega) (by decide) rfl dX3_dayTold_36 ?_
  refine lv_aload_n hx hb dX3_dayTold_37 rfl (lv_at hl 0 rfl) ?_
  refine lv_iconst (v := iZ 2) hx hb dX3_dayTold_38 rfl ?_
  refine kz_iald (v := σ 7 pj) hx hb hM.1 hP (13 + pj) 0 (kY_D _ hpj) rfl (by omega) (by decide) rfl dX3_dayTold_39 ?_
  refine kc0 (fun _ q => q) (va_runS (As := [.int (iZ (σ 5 pj)), .int (iZ (σ 6 pj)), .int (iZ (σ 7 pj))]) (rest := [.int (iZ 3), .ref v_1, .ref v_1]) ⟨hx, hb, hml, hown, hts⟩ (c_X3_place l dC dI dA k _ ((σ 5 pj)) ((σ 6 pj)) ((σ 7 pj)) (by first | omega | (have := dnum_rng (y := σ 5 pj) (m := σ 6 pj) (d := σ 7 pj) (by omega) (by omega) (by omega); omega) | (have := mlen_rng (leap (σ 5 pj)) (σ 6 pj); omega)) (by first | omega | (have := dnum_rng (y := σ 5 pj) (m := σ 6 pj) (d := σ 7 pj) (by omega) (by omega) (by omega); omega) | (have := mlen_rng (leap (σ 5 pj)) (σ 6 pj); omega))) (va_cwS 3 hts (kg_S mw1224 mw1225 mw47 rfl mw1226) rfl rfl rfl hdS_X3_place ⟨Nat.le_of_ble_eq_true rfl, Nat.le_of_ble_eq_true rfl⟩) ⟨fun a U g mk q => ⟨q.1, q.2.1, kM_call q.2.2⟩, fun U hU hW => ⟨rfl, hU, kM_kept hM hS hAN hU hW⟩⟩ rfl rfl hl.1 rfl (lv_room (Nat.le_of_ble_eq_true rfl)) dX3_dayTold_40 ⟨Nat.le_of_ble_eq_true rfl, Nat.le_of_ble_eq_true rfl⟩) ?_
  refine kz_iast hx hb hM.1 hP hD hS 17 rfl (by omega) (by decide) dX3_dayTold_43 (fun H locs hP hD hS => ?_)
  have hP : va_P (dC, dI) vwCl (kY dA m0 r0 σ (th) ++ ([(v_1, .inl (dA 0, 6, .inl (upd (upd (upd (upd (fun _ => 0) 0 (iZ (σ 5 pj))) 1 (iZ (σ 6 pj))) 2 (iZ (σ 7 pj))) 3 (iZ ((((σ 7 pj))) + ahead (leap (((σ 5 pj)))) (((σ 6 pj))))))))] : va_W)) _ := hP
  have hD : va_D (kAy m0 r0 s.heap.size) (kY dA m0 r0 σ (th) ++ ([(v_1, .inl (dA 0, 6, .inl (upd (upd (upd (upd (fun _ => 0) 0 (iZ (σ 5 pj))) 1 (iZ (σ 6 pj))) 2 (iZ (σ 7 pj))) 3 (iZ ((((σ 7 pj))) + ahead (leap (((σ 5 pj)))) (((σ 6 pj))))))))] : va_W)) := hD
  refine lv_dup hx hb dX3_dayTold_44 rfl ?_
  refine lv_iconst (v := iZ 4) hx hb dX3_dayTold_45 rfl ?_
  refine lv_aload_n hx hb dX3_dayTold_46 rfl (lv_at hl 0 rfl) ?_
  refine kc0 (fun _ q => q) (va_runS (As := [.ref (r0 3 pj)]) (rest := [.int (iZ 4), .ref v_1, .ref v_1]) ⟨hx, hb, hml, hown, hts⟩ (c_X3_weekday l dC dI dA k _ _ hP (13 + pj) (r0 3 pj) _ (σ 5 pj) (σ 6 pj) (σ 7 pj) (kY_D _ hpj) rfl rfl rfl (by first | omega | (have := dnum_rng (y := σ 5 pj) (m := σ 6 pj) (d := σ 7 pj) (by omega) (by omega) (by omega); omega) | (have := mlen_rng (leap (σ 5 pj)) (σ 6 pj); omega)) (by first | omega | (have := dnum_rng (y := σ 5 pj) (m := σ 6 pj) (d := σ 7 pj) (by omega) (by omega) (by omega); omega) | (have := mlen_rng (leap (σ 5 pj)) (σ 6 pj); omega)) (by first | omega | (have := dnum_rng (y := σ 5 pj) (m := σ 6 pj) (d := σ 7 pj) (by omega) (by omega) (by omega); omega) | (have := mlen_rng (leap (σ 5 pj)) (σ 6 pj); omega))) (va_cwS 1 hts (kg_S mw1214 mw1215 mw47 rfl mw1216) rfl rfl rfl hdS_X3_weekday ⟨Nat.le_of_ble_eq_true rfl, Nat.le_of_ble_eq_true rfl⟩) ⟨fun a U g mk q => ⟨q.1, q.2.1, kM_call q.2.2⟩, fun U hU hW => ⟨rfl, hU, kM_kept hM hS hAN hU hW⟩⟩ rfl rfl hl.1 rfl (lv_room (Nat.le_of_ble_eq_true rfl)) dX3_dayTold_47 ⟨Nat.le_of_ble_eq_true rfl, Nat.le_of_ble_eq_true rfl⟩) ?_
  refine kz_iast hx hb hM.1 hP hD hS 17 rfl (by omega) (by decide) dX3_dayTold_50 (fun H locs hP hD hS => ?_)
  have hP : va_P (dC, dI) vwCl (kY dA m0 r0 σ (th) ++ ([(v_1, .inl (dA 0, 6, .inl (upd (upd (upd (upd (upd (fun _ => 0) 0 (iZ (σ 5 pj))) 1 (iZ (σ 6 pj))) 2 (iZ (σ 7 pj))) 3 (iZ ((((σ 7 pj))) + ahead (leap (((σ 5 pj)))) (((σ 6 pj)))))) 4 (iZ (1 + (dnum ((σ 5 pj)) ((σ 6 pj)) ((σ 7 pj)) + 3) % 7)))))] : va_W)) _ := hP
  have hD : va_D (kAy m0 r0 s.heap.size) (kY dA m0 r0 σ (th) ++ ([(v_1, .inl (dA 0, 6, .inl (upd (upd (upd (upd (upd (fun _ => 0) 0 (iZ (σ 5 pj))) 1 (iZ (σ 6 pj))) 2 (iZ (σ 7 pj))) 3 (iZ ((((σ 7 pj))) + ahead (leap (((σ 5 pj)))) (((σ 6 pj)))))) 4 (iZ (1 + (dnum ((σ 5 pj)) ((σ 6 pj)) ((σ 7 pj)) + 3) % 7)))))] : va_W)) := hD
  refine lv_dup hx hb dX3_dayTold_51 rfl ?_
  refine lv_iconst (v := iZ 5) hx hb dX3_dayTold_52 rfl ?_
  refine lv_aload_n hx hb dX3_dayTold_53 rfl (lv_at hl 0 rfl) ?_
  refine lv_iconst (v := iZ 2) hx hb dX3_dayTold_54 rfl ?_
  refine kz_iald (v := σ 7 pj) hx hb hM.1 hP (13 + pj) 0 (kY_D _ hpj) rfl (by omega) (by decide) rfl dX3_dayTold_55 ?_
  refine lv_aload_n hx hb dX3_dayTold_56 rfl (lv_at hl 0 rfl) ?_
  refine lv_iconst (v := iZ 0) hx hb dX3_dayTold_57 rfl ?_
  refine kz_iald (v := σ 5 pj) hx hb hM.1 hP (13 + pj) 0 (kY_D _ hpj) rfl (by omega) (by decide) rfl dX3_dayTold_58 ?_
  refine kz_i2l hx hb (by first | omega | (have := dnum_rng (y := σ 5 pj) (m := σ 6 pj) (d := σ 7 pj) (by omega) (by omega) (by omega); omega) | (have := mlen_rng (leap (σ 5 pj)) (σ 6 pj); omega)) dX3_dayTold_59 ?_
  refine lv_aload_n hx hb dX3_dayTold_60 rfl (lv_at hl 0 rfl) ?_
  refine lv_iconst (v := iZ 1) hx hb dX3_dayTold_61 rfl ?_
  refine kz_iald (v := σ 6 pj) hx hb hM.1 hP (13 + pj) 0 (kY_D _ hpj) rfl (by omega) (by decide) rfl dX3_dayTold_62 ?_
  refine kc0 (fun _ q => q) (va_runS (As := [.long (lZ ((σ 5 pj))), .int (iZ (σ 6 pj))]) (rest := [.int (iZ (σ 7 pj)), .int (iZ 5), .ref v_1, .ref v_1]) ⟨hx, hb, hml, hown, hts⟩ (c_X3_length l dC dI dA k _ (((σ 5 pj))) ((σ 6 pj)) (by first | omega | (have := dnum_rng (y := σ 5 pj) (m := σ 6 pj) (d := σ 7 pj) (by omega) (by omega) (by omega); omega) | (have := mlen_rng (leap (σ 5 pj)) (σ 6 pj); omega)) (by first | omega | (have := dnum_rng (y := σ 5 pj) (m := σ 6 pj) (d := σ 7 pj) (by omega) (by omega) (by omega); omega) | (have := mlen_rng (leap (σ 5 pj)) (σ 6 pj); omega))) (va_cwS 2 hts (kg_S mw1046 mw1047 mw47 rfl mw1048) rfl rfl rfl hdS_X3_length ⟨Nat.le_of_ble_eq_true rfl, Nat.le_of_ble_eq_true rfl⟩) ⟨fun a U g mk q => ⟨q.1, q.2.1, kM_call q.2.2⟩, fun U hU hW => ⟨rfl, hU, kM_kept hM hS hAN hU hW⟩⟩ rfl rfl hl.1 rfl (lv_room (Nat.le_of_ble_eq_true rfl)) dX3_dayTold_63 ⟨Nat.le_of_ble_eq_true rfl, Nat.le_of_ble_eq_true rfl⟩) ?_
  refine kz_icmp_ne (tgt := 73) hx hb (by first | omega | (have := dnum_rng (y := σ 5 pj) (m := σ 6 pj) (d := σ 7 pj) (by omega) (by omega) (by omega); omega) | (have := mlen_rng (leap (σ 5 pj)) (σ 6 pj); omega)) (by first | omega | (have := dnum_rng (y := σ 5 pj) (m := σ 6 pj) (d := σ 7 pj) (by omega) (by omega) (by omega); omega) | (have := mlen_rng (leap (σ 5 pj)) (σ 6 pj); omega)) dX3_dayTold_66 (by decide) (fun c_2 => ?_) (fun c_2 => ?_)
  · refine lv_iconst (v := iZ 0) hx hb dX3_dayTold_73 rfl ?_
    refine kc0 (fun _ q => q) (va_runS (As := [.int (iZ (bZ false))]) (rest := [.int (iZ 5), .ref v_1, .ref v_1]) ⟨hx, hb, hml, hown, hts⟩ (c_X3_bit l _ false) (va_cwS 1 hts (kg_S mw1116 mw1117 mw47 rfl mw1118) rfl rfl rfl hdS_X3_bit ⟨Nat.le_of_ble_eq_true rfl, Nat.le_of_ble_eq_true rfl⟩) ⟨fun a U g mk q => q, fun U hU hW => ⟨rfl, hU⟩⟩ rfl rfl hl.1 rfl (lv_room (Nat.le_of_ble_eq_true rfl)) dX3_dayTold_74 ⟨Nat.le_of_ble_eq_true rfl, Nat.le_of_ble_eq_true rfl⟩) ?_
    refine kz_iast hx hb hM.1 hP hD hS 17 rfl (by omega) (by decide) dX3_dayTold_77 (fun H locs hP hD hS => ?_)
    have hP : va_P (dC, dI) vwCl (kY dA m0 r0 σ (th) ++ ([(v_1, .inl (dA 0, 6, .inl (upd (upd (upd (upd (upd (upd (fun _ => 0) 0 (iZ (σ 5 pj))) 1 (iZ (σ 6 pj))) 2 (iZ (σ 7 pj))) 3 (iZ ((((σ 7 pj))) + ahead (leap (((σ 5 pj)))) (((σ 6 pj)))))) 4 (iZ (1 + (dnum ((σ 5 pj)) ((σ 6 pj)) ((σ 7 pj)) + 3) % 7))) 5 (iZ 0))))] : va_W)) _ := hP
    have hD : va_D (kAy m0 r0 s.heap.size) (kY dA m0 r0 σ (th) ++ ([(v_1, .inl (dA 0, 6, .inl (upd (upd (upd (upd (upd (upd (fun _ => 0) 0 (iZ (σ 5 pj))) 1 (iZ (σ 6 pj))) 2 (iZ (σ 7 pj))) 3 (iZ ((((σ 7 pj))) + ahead (leap (((σ 5 pj)))) (((σ 6 pj)))))) 4 (iZ (1 + (dnum ((σ 5 pj)) ((σ 6 pj)) ((σ 7 pj)) + 3) % 7))) 5 (iZ 0))))] : va_W)) := hD
    refine lv_astore (lv' := [(4, .ref v_1), (3, .ref (r0 3 pj)), (0, .ref m0), (1, .int (iZ ((pj : Nat) : Int))), (2, .int (iZ w0))]) hx hb dX3_dayTold_78 hl (by decide) rfl (fun ls hl => ?_)
    refine lv_aload hx hb dX3_dayTold_80 (lv_at hl 0 rfl) ?_
    refine lv_iload_n hx hb dX3_dayTold_82 rfl (lv_at hl 4 rfl) ?_
    refine kz_iald (v := ofD σ pj w0) hx hb hM.1 hP 17 0 rfl rfl (by omega) (by decide) (by rcases (show w0 = 0 ∨ w0 = 1 ∨ w0 = 2 ∨ w0 = 3 ∨ w0 = 4 ∨ w0 = 5 from by omega) with rfl | rfl | rfl | rfl | rfl | rfl <;> first | rfl | exact congrArg iZ (Int.add_comm _ _) | exact congrArg iZ (bZ_d1 (by omega)) | exact congrArg iZ (bZ_d0 (by omega))) dX3_dayTold_83 ?_
    refine W.widen (k := 1) (n := 6) (Nat.le_of_ble_eq_true rfl) (Nat.le_of_ble_eq_true rfl) ?_
    exact W.iret (v := iZ (ofD σ pj w0)) hx hb hr9 (fun t ht hW => ⟨⟨congrArg (fun z : Int => Outcome.returned (some (Value.int (iZ z)))) (show (ofD σ pj w0) = (ofD σ pj w0) from rfl), kYcast (by rw [ht]; exact va_Pl hP) (show (σ) = (σ) from rfl) (show (th) = (th) from rfl)⟩, hS.F ht⟩) hS.2.2 dX3_dayTold_84
  · refine lv_iconst (v := iZ 1) hx hb dX3_dayTold_69 rfl ?_
    refine lv_goto (tgt := 74) hx hb dX3_dayTold_70 (by decide) ?_
    refine kc0 (fun _ q => q) (va_runS (As := [.int (iZ (bZ true))]) (rest := [.int (iZ 5), .ref v_1, .ref v_1]) ⟨hx, hb, hml, hown, hts⟩ (c_X3_bit l _ true) (va_cwS 1 hts (kg_S mw1116 mw1117 mw47 rfl mw1118) rfl rfl rfl hdS_X3_bit ⟨Nat.le_of_ble_eq_true rfl, Nat.le_of_ble_eq_true rfl⟩) ⟨fun a U g mk q => q, fun U hU hW => ⟨rfl, hU⟩⟩ rfl rfl hl.1 rfl (lv_room (Nat.le_of_ble_eq_true rfl)) dX3_dayTold_74 ⟨Nat.le_of_ble_eq_true rfl, Nat.le_of_ble_eq_true rfl⟩) ?_
    refine kz_iast hx hb hM.1 hP hD hS 17 rfl (by omega) (by decide) dX3_dayTold_77 (fun H locs hP hD hS => ?_)
    have hP : va_P (dC, dI) vwCl (kY dA m0 r0 σ (th) ++ ([(v_1, .inl (dA 0, 6, .inl (upd (upd (upd (upd (upd (upd (fun _ => 0) 0 (iZ (σ 5 pj))) 1 (iZ (σ 6 pj))) 2 (iZ (σ 7 pj))) 3 (iZ ((((σ 7 pj))) + ahead (leap (((σ 5 pj)))) (((σ 6 pj)))))) 4 (iZ (1 + (dnum ((σ 5 pj)) ((σ 6 pj)) ((σ 7 pj)) + 3) % 7))) 5 (iZ 1))))] : va_W)) _ := hP
    have hD : va_D (kAy m0 r0 s.heap.size) (kY dA m0 r0 σ (th) ++ ([(v_1, .inl (dA 0, 6, .inl (upd (upd (upd (upd (upd (upd (fun _ => 0) 0 (iZ (σ 5 pj))) 1 (iZ (σ 6 pj))) 2 (iZ (σ 7 pj))) 3 (iZ ((((σ 7 pj))) + ahead (leap (((σ 5 pj)))) (((σ 6 pj)))))) 4 (iZ (1 + (dnum ((σ 5 pj)) ((σ 6 pj)) ((σ 7 pj)) + 3) % 7))) 5 (iZ 1))))] : va_W)) := hD
    refine lv_astore (lv' := [(4, .ref v_1), (3, .ref (r0 3 pj)), (0, .ref m0), (1, .int (iZ ((pj : Nat) : Int))), (2, .int (iZ w0))]) hx hb dX3_dayTold_78 hl (by decide) rfl (fun ls hl => ?_)
    refine lv_aload hx hb dX3_dayTold_80 (lv_at hl 0 rfl) ?_
    refine lv_iload_n hx hb dX3_dayTold_82 rfl (lv_at hl 4 rfl) ?_
    refine kz_iald (v := ofD σ pj w0) hx hb hM.1 hP 17 0 rfl rfl (by omega) (by decide) (by rcases (show w0 = 0 ∨ w0 = 1 ∨ w0 = 2 ∨ w0 = 3 ∨ w0 = 4 ∨ w0 = 5 from by omega) with rfl | rfl | rfl | rfl | rfl | rfl <;> first | rfl | exact congrArg iZ (Int.add_comm _ _) | exact congrArg iZ (bZ_d1 (by omega)) | exact congrArg iZ (bZ_d0 (by omega))) dX3_dayTold_83 ?_
    refine W.widen (k := 1) (n := 6) (Nat.le_of_ble_eq_true rfl) (Nat.le_of_ble_eq_true rfl) ?_
    exact W.iret (v := iZ (ofD σ pj w0)) hx hb hr9 (fun t ht hW => ⟨⟨congrArg (fun z : Int => Outcome.returned (some (Value.int (iZ z)))) (show (ofD σ pj w0) = (ofD σ pj w0) from rfl), kYcast (by rw [ht]; exact va_Pl hP) (show (σ) = (σ) from rfl) (show (th) = (th) from rfl)⟩, hS.F ht⟩) hS.2.2 dX3_dayTold_84

abbrev ww_X3_ofDay : List Cond := .code yX3_ofDay cX3_ofDay 3 (some .int) :: gT
set_option maxHeartbeats 4000000 in
set_option maxRecDepth 100000 in
theorem c_X3_ofDay (l : Launch) (dC : Nat → ClassId) (dI : Nat → Nat → Nat) (dA : Nat → ClassId) (k : Nat → Nat) (m0 : Nat) (r0 : Nat → Nat → Nat) (σ : Nat → Nat → Int) (th : Int) (H0 : Heap) (hP : va_P (dC, dI) vwCl (kY dA m0 r0 σ th) H0) (hr : kRI m0 r0 k) (hOK : kOK σ) (z1 : Int) (w0 : Int) (rz1 : -2147483648 ≤ z1 ∧ z1 < 2147483648) (rw0 : -2147483648 ≤ w0 ∧ w0 < 2147483648) : Met l yX3_ofDay ww_X3_ofDay ({ frames := 7, cells := 1, slots := 6, locals := 157 }) (va_Pc [.ref m0, .int (iZ z1), .int (iZ w0)] (fun U => U.heap = H0 ∧ kM dC dI dA k U)) (kQ2 (some (.int (iZ (if ex2 (!inb z1 0 3) (!inb w0 0 5) = 0 then (ofD σ (z1.toNat) w0) else 0)))) (gY dC dI dA k m0 r0 H0.size (σ) (ex2 (!inb z1 0 3) (!inb w0 0 5))) (kAy m0 r0 H0.size)) 1 6 (kAy m0 r0 H0.size) := by
  refine Met.ofW (cc := cX3_ofDay) (maxL := 3) (ret := (some .int)) (by decide) rfl ?_
  intro p e s m args below meth c s₁ B hml hv
  obtain ⟨rfl, hH, hM⟩ := hv
  subst hH
  have hr0 := hr
  have hAN : ∀ a, kAy m0 r0 s.heap.size a → k 0 ≤ a := fun a h => kAy_N hr0 hM.2.1.1 a h
  have hrA : ∀ i : Nat, i < 17 → kAy m0 r0 s.heap.size (kR m0 r0 i) := fun i hi => Or.inl ⟨i, hi, rfl⟩
  have hD : va_D (kAy m0 r0 s.heap.size) (kY dA m0 r0 σ (th) ++ ([] : va_W)) := by rw [← kap]; exact kYD_A hr hrA
  have hP : va_P (dC, dI) vwCl (kY dA m0 r0 σ (th) ++ ([] : va_W)) s.heap := hP
  have hS : va_S (kAy m0 r0 s.heap.size) s.heap s.heap [] := va_S.rf
  have hx := B.exec
  have hb := B.bytes
  have hr9 := B.returns
  have hts := atoms_spec (ws := ww_X3_ofDay) B.pre
  have hown : s.vm.findClass RX3 = some m.cls := findClass_of_methodNamed B.named
  have hlocks := B.notSynchronized
  have hl := lv_entry ([.ref m0, .int (iZ z1), .int (iZ w0)]) (n := 3) (Nat.le_of_ble_eq_true rfl)
  rw [lg_entry_eq]
  generalize (lg_sl ([.ref m0, .int (iZ z1), .int (iZ w0)]) ++ List.replicate (3 - (lg_sl ([.ref m0, .int (iZ z1), .int (iZ w0)])).length) Slot.unset).toArray = ls at hl ⊢
  have hl : lv_has ls 3 [(0, .ref m0), (1, .int (iZ z1)), (2, .int (iZ w0))] := hl
  refine lv_aload_n hx hb dX3_ofDay_0 rfl (lv_at hl 0 rfl) ?_
  refine lv_iload_n hx hb dX3_ofDay_1 rfl (lv_at hl 1 rfl) ?_
  refine kc0 (fun _ q => q) (va_runS (As := [.int (iZ z1)]) (rest := [.ref m0]) ⟨hx, hb, hml, hown, hts⟩ (c_X3_isNo l _ (z1) (by first | omega | (unfold sgn; (try split) <;> omega))) (va_cwS 1 hts (kg_S mw1021 mw1022 mw47 rfl mw1023) rfl rfl rfl hdS_X3_isNo ⟨Nat.le_of_ble_eq_true rfl, Nat.le_of_ble_eq_true rfl⟩) ⟨fun a U g mk q => q, fun U hU hW => ⟨rfl, hU⟩⟩ rfl rfl hl.1 rfl (lv_room (Nat.le_of_ble_eq_true rfl)) dX3_ofDay_2 ⟨Nat.le_of_ble_eq_true rfl, Nat.le_of_ble_eq_true rfl⟩) ?_
  refine lv_iload_n hx hb dX3_ofDay_5 rfl (lv_at hl 2 rfl) ?_
  refine kz_i2l hx hb (by first | omega | (unfold sgn; (try split) <;> omega)) dX3_ofDay_6 ?_
  refine lv_lconst (v := lZ 0) hx hb dX3_ofDay_7 rfl ?_
  refine lv_ldc2 (v := lZ 5) hx hb hown (hts _ (List.mem_cons_of_mem _ mw1371)) dX3_ofDay_8 ?_
  refine kc0 (fun _ q => q) (va_runS (As := [.long (lZ (w0)), .long (lZ (0)), .long (lZ (5))]) (rest := [.int (iZ (bZ (!inb ((z1)) 0 3))), .ref m0]) ⟨hx, hb, hml, hown, hts⟩ (c_X3_isIn l _ (w0) (0) (5) (by first | omega | (unfold sgn; (try split) <;> omega)) (by first | omega | (unfold sgn; (try split) <;> omega)) (by first | omega | (unfold sgn; (try split) <;> omega))) (va_cwS 3 hts (kg_S mw1025 mw1026 mw47 rfl mw1027) rfl rfl rfl hdS_X3_isIn ⟨Nat.le_of_ble_eq_true rfl, Nat.le_of_ble_eq_true rfl⟩) ⟨fun a U g mk q => q, fun U hU hW => ⟨rfl, hU⟩⟩ rfl rfl hl.1 rfl (lv_room (Nat.le_of_ble_eq_true rfl)) dX3_ofDay_11 ⟨Nat.le_of_ble_eq_true rfl, Nat.le_of_ble_eq_true rfl⟩) ?_
  refine kz_ifb_ne (tgt := 21) hx hb  dX3_ofDay_14 (by decide) (fun c_1 => ?_) (fun c_1 => ?_)
  · refine lv_iconst (v := iZ 0) hx hb dX3_ofDay_21 rfl ?_
    refine kc2 (va_runV (As := [.int (iZ (bZ (!inb ((z1)) 0 3))), .int (iZ (bZ false))]) (rest := []) ⟨hx, hb, hml, hown, hts⟩ (c_X3_fails l dC dI dA k m0 (r0) (σ) (th) _ (va_Pl hP) hr hOK (!inb ((z1)) 0 3) false ) (cwV 2 hts (kg_V mw1037 mw1038 mw27 mw47 rfl mw1039) rfl rfl rfl hdV_X3_fails ⟨Nat.le_of_ble_eq_true rfl, Nat.le_of_ble_eq_true rfl⟩) ⟨fun a U g mk q => ⟨q.1, q.2.1, kM_call q.2.2⟩, va_recv hM.1 hP (ci := 6) (q0 := 0) rfl rfl, fun U hU hW => ⟨rfl, hU, kM_kept hM hS hAN hU hW⟩⟩ rfl rfl hl.1 rfl (lv_room (Nat.le_of_ble_eq_true rfl)) dX3_ofDay_22 ⟨Nat.le_of_ble_eq_true rfl, Nat.le_of_ble_eq_true rfl⟩) hS (fun a _ h => kAy_tr hrA hS.1 a h) (fun a h => kAy_tr hrA hS.1 a h) (fun H locs hP9 hz9 hk9 hS => ?_)
    have hP : va_P (dC, dI) vwCl (kY dA m0 r0 σ (ex2 ((!inb ((z1)) 0 3)) false) ++ ([] : va_W)) _ := hP9
    have hD : va_D (kAy m0 r0 s.heap.size) (kY dA m0 r0 σ (ex2 ((!inb ((z1)) 0 3)) false) ++ ([] : va_W)) := by rw [← kap]; exact kYD_A hr hrA
    refine kz_ifb_eq (tgt := 32) hx hb  dX3_ofDay_25 (by decide) (fun c_2 => ?_) (fun c_2 => ?_)
    · have hX : ex2 (!inb z1 0 3) (!inb w0 0 5) = ex2 (!inb ((z1)) 0 3) false := by first | rfl | simp only [c_1, Bool.true_or, Bool.or_true, Bool.false_or, Bool.or_false, Bool.not_true, Bool.not_false]
      have hZ : ex2 (!inb z1 0 3) (!inb w0 0 5) = 0 := kf_eq hX c_2
      obtain ⟨hA9, hB9⟩ := ex2_z hZ
      simp only [Bool.or_eq_false_iff, Bool.not_eq_false', Bool.not_eq_true', inb, decide_eq_true_eq, decide_eq_false_iff_not, noThing_niff] at hA9
      simp only [Bool.or_eq_false_iff, Bool.not_eq_false', Bool.not_eq_true', inb, decide_eq_true_eq, decide_eq_false_iff_not, noThing_niff] at hB9
      obtain ⟨p1, hp1, rfl⟩ : ∃ p1 : Nat, p1 < 4 ∧ z1 = (p1 : Int) := ⟨z1.toNat, by omega, by omega⟩
      have o_p1 := kOKr hOK hp1
      have l_p1 := mlen_rng (leap (σ 0 p1)) (σ 1 p1)
      have n_p1 := dnum_rng (y := σ 5 p1) (m := σ 6 p1) (d := σ 7 p1) (by omega) (by omega) (by omega)
      have hP := kY0 hP (kf_e c_2)
      have hD := kD0 hD (kf_e c_2)
      refine lv_aload_n hx hb dX3_ofDay_32 rfl (lv_at hl 0 rfl) ?_
      refine lv_iload_n hx hb dX3_ofDay_33 rfl (lv_at hl 1 rfl) ?_
      refine lv_iload_n hx hb dX3_ofDay_34 rfl (lv_at hl 2 rfl) ?_
      refine kc2 (va_runV (As := [.int (iZ ((p1 : Nat) : Int)), .int (iZ w0)]) (rest := []) ⟨hx, hb, hml, hown, hts⟩ (c_X3_dayTold l dC dI dA k m0 (r0) (σ) (0) _ (va_Pl hP) hr hOK p1 (w0) hp1 (by first | omega | (unfold sgn; (try split) <;> omega))) (cwV 2 hts (kg_V mw1372 mw1373 mw39 mw47 rfl mw1374) rfl rfl rfl hdV_X3_dayTold ⟨Nat.le_of_ble_eq_true rfl, Nat.le_of_ble_eq_true rfl⟩) ⟨fun a U g mk q => ⟨q.1, q.2.1, kM_call q.2.2⟩, va_recv hM.1 hP (ci := 6) (q0 := 0) rfl rfl, fun U hU hW => ⟨rfl, hU, kM_kept hM hS hAN hU hW⟩⟩ rfl rfl hl.1 rfl (lv_room (Nat.le_of_ble_eq_true rfl)) dX3_ofDay_35 ⟨Nat.le_of_ble_eq_true rfl, Nat.le_of_ble_eq_true rfl⟩) hS (fun a _ h => kAy_tr hrA hS.1 a h) (fun a h => kAy_tr hrA hS.1 a h) (fun H locs hP9 hz9 hk9 hS => ?_)
      have hP : va_P (dC, dI) vwCl (kY dA m0 r0 σ (0) ++ ([] : va_W)) _ := hP9
      have hD : va_D (kAy m0 r0 s.heap.size) (kY dA m0 r0 σ (0) ++ ([] : va_W)) := by rw [← kap]; exact kYD_A hr hrA
      refine W.widen (k := 1) (n := 6) (Nat.le_of_ble_eq_true rfl) (Nat.le_of_ble_eq_true rfl) ?_
      exact W.iret (v := iZ (ofD σ p1 ((w0)))) hx hb hr9 (fun t ht hW => ⟨⟨congrArg (fun z : Int => Outcome.returned (some (Value.int (iZ z)))) (show (ofD σ p1 ((w0))) = (if ex2 (!inb ((p1 : Nat) : Int) 0 3) (!inb w0 0 5) = 0 then (ofD σ p1 w0) else 0) from by rw [if_pos hZ]; done), gY_cast ⟨r0, hr, hrA, by rw [ht]; exact va_Pl hP⟩ (show (σ) = (σ) from rfl) (show (0) = ex2 (!inb ((p1 : Nat) : Int) 0 3) (!inb w0 0 5) from hZ.symm)⟩, hS.F ht⟩) hS.2.2 dX3_ofDay_38
    · have hX : ex2 (!inb z1 0 3) (!inb w0 0 5) = ex2 (!inb ((z1)) 0 3) false := by first | rfl | simp only [c_1, Bool.true_or, Bool.or_true, Bool.false_or, Bool.or_false, Bool.not_true, Bool.not_false]
      have hN : ¬ ex2 (!inb z1 0 3) (!inb w0 0 5) = 0 := kf_ne hX c_2
      refine lv_iconst (v := iZ 0) hx hb dX3_ofDay_28 rfl ?_
      refine lv_goto (tgt := 38) hx hb dX3_ofDay_29 (by decide) ?_
      refine W.widen (k := 1) (n := 6) (Nat.le_of_ble_eq_true rfl) (Nat.le_of_ble_eq_true rfl) ?_
      exact W.iret (v := iZ 0) hx hb hr9 (fun t ht hW => ⟨⟨congrArg (fun z : Int => Outcome.returned (some (Value.int (iZ z)))) (show 0 = (if ex2 (!inb z1 0 3) (!inb w0 0 5) = 0 then (ofD σ (z1.toNat) w0) else 0) from by rw [if_neg hN]), gY_cast ⟨r0, hr, hrA, by rw [ht]; exact va_Pl hP⟩ (show (σ) = (σ) from rfl) (show (ex2 ((!inb ((z1)) 0 3)) false) = ex2 (!inb z1 0 3) (!inb w0 0 5) from hX.symm)⟩, hS.F ht⟩) hS.2.2 dX3_ofDay_38
  · refine lv_iconst (v := iZ 1) hx hb dX3_ofDay_17 rfl ?_
    refine lv_goto (tgt := 22) hx hb dX3_ofDay_18 (by decide) ?_
    refine kc2 (va_runV (As := [.int (iZ (bZ (!inb ((z1)) 0 3))), .int (iZ (bZ true))]) (rest := []) ⟨hx, hb, hml, hown, hts⟩ (c_X3_fails l dC dI dA k m0 (r0) (σ) (th) _ (va_Pl hP) hr hOK (!inb ((z1)) 0 3) true ) (cwV 2 hts (kg_V mw1037 mw1038 mw27 mw47 rfl mw1039) rfl rfl rfl hdV_X3_fails ⟨Nat.le_of_ble_eq_true rfl, Nat.le_of_ble_eq_true rfl⟩) ⟨fun a U g mk q => ⟨q.1, q.2.1, kM_call q.2.2⟩, va_recv hM.1 hP (ci := 6) (q0 := 0) rfl rfl, fun U hU hW => ⟨rfl, hU, kM_kept hM hS hAN hU hW⟩⟩ rfl rfl hl.1 rfl (lv_room (Nat.le_of_ble_eq_true rfl)) dX3_ofDay_22 ⟨Nat.le_of_ble_eq_true rfl, Nat.le_of_ble_eq_true rfl⟩) hS (fun a _ h => kAy_tr hrA hS.1 a h) (fun a h => kAy_tr hrA hS.1 a h) (fun H locs hP9 hz9 hk9 hS => ?_)
    have hP : va_P (dC, dI) vwCl (kY dA m0 r0 σ (ex2 ((!inb ((z1)) 0 3)) true) ++ ([] : va_W)) _ := hP9
    have hD : va_D (kAy m0 r0 s.heap.size) (kY dA m0 r0 σ (ex2 ((!inb ((z1)) 0 3)) true) ++ ([] : va_W)) := by rw [← kap]; exact kYD_A hr hrA
    refine kz_ifb_eq (tgt := 32) hx hb  dX3_ofDay_25 (by decide) (fun c_3 => absurd (kf_f c_3).2 (by decide)) (fun c_3 => ?_)
    have hX : ex2 (!inb z1 0 3) (!inb w0 0 5) = ex2 (!inb ((z1)) 0 3) true := by first | rfl | simp only [c_1, Bool.true_or, Bool.or_true, Bool.false_or, Bool.or_false, Bool.not_true, Bool.not_false]
    have hN : ¬ ex2 (!inb z1 0 3) (!inb w0 0 5) = 0 := kf_ne hX c_3
    refine lv_iconst (v := iZ 0) hx hb dX3_ofDay_28 rfl ?_
    refine lv_goto (tgt := 38) hx hb dX3_ofDay_29 (by decide) ?_
    refine W.widen (k := 1) (n := 6) (Nat.le_of_ble_eq_true rfl) (Nat.le_of_ble_eq_true rfl) ?_
    exact W.iret (v := iZ 0) hx hb hr9 (fun t ht hW => ⟨⟨congrArg (fun z : Int => Outcome.returned (some (Value.int (iZ z)))) (show 0 = (if ex2 (!inb z1 0 3) (!inb w0 0 5) = 0 then (ofD σ (z1.toNat) w0) else 0) from by rw [if_neg hN]), gY_cast ⟨r0, hr, hrA, by rw [ht]; exact va_Pl hP⟩ (show (σ) = (σ) from rfl) (show (ex2 ((!inb ((z1)) 0 3)) true) = ex2 (!inb z1 0 3) (!inb w0 0 5) from hX.symm)⟩, hS.F ht⟩) hS.2.2 dX3_ofDay_38

