abbrev ww_J7_checkLength_df160 : List Cond := .code yJ7_checkLength_df160 cJ7_checkLength_df160 2 none :: gT
set_option maxHeartbeats 4000000 in
set_option maxRecDepth 100000 in
theorem c_J7_checkLength_df160 (l : Launch) (H0 : Heap) (aa : Int) (bb : Int) (h0 : aa ≤ bb) (h1 : -2147483648 ≤ aa ∧ aa < 2147483648) (h2 : -2147483648 ≤ bb ∧ bb < 2147483648) : Met l yJ7_checkLength_df160 ww_J7_checkLength_df160 ({ frames := 0, cells := 0, slots := 0, locals := 0 }) (va_Pc [.int (iZ aa), .int (iZ bb)] (fun U => U.heap = H0)) (kQ0 (none) H0) 0 0 kN := by
  refine va_MetF (cc := cJ7_checkLength_df160) (maxL := 2) (ret := none) (by decide +kernel) rfl ?_
  intro p e s m args below meth c s₁ B hml hv
  obtain ⟨rfl, hH⟩ := hv
  subst hH
  have hx := B.exec
  have hb := B.bytes
  have hr := B.returns
  have hts := atoms_spec (ws := ww_J7_checkLength_df160) B.pre
  have hown : s.vm.findClass RJ7 = some m.cls := findClass_of_methodNamed B.named
  have hlocks := B.notSynchronized
  have hl := lv_entry ([.int (iZ aa), .int (iZ bb)]) (n := 2) (Nat.le_of_ble_eq_true rfl)
  rw [lg_entry_eq]
  generalize (lg_sl ([.int (iZ aa), .int (iZ bb)]) ++ List.replicate (2 - (lg_sl ([.int (iZ aa), .int (iZ bb)])).length) Slot.unset).toArray = ls at hl ⊢
  have hl : lv_has ls 2 [(0, .int (iZ aa)), (1, .int (iZ bb))] := hl
  refine lv_iload_n hx hb dJ7_checkLength_df160_0 rfl (lv_at hl 1 rfl) ?_
  refine lv_iload_n hx hb dJ7_checkLength_df160_1 rfl (lv_at hl 0 rfl) ?_
  refine kz_icmp_ge (tgt := 37) hx hb (by omega) (by omega) dJ7_checkLength_df160_2 (by decide) (fun c_1 => ?_) (fun c_1 => absurd c_1 (by omega))
  exact W.vret hx hb hr (fun t ht hW => ⟨rfl, ht⟩) (fun q h => by cases h) dJ7_checkLength_df160_37

abbrev ww_J7_copyOfRangeByte_39247 : List Cond := .code yJ7_copyOfRangeByte_39247 cJ7_copyOfRangeByte_39247 5 (some (.array .byte)) :: gT
set_option maxHeartbeats 4000000 in
set_option maxRecDepth 100000 in
theorem c_J7_copyOfRangeByte_39247 (l : Launch) (dC : Nat → ClassId) (dI : Nat → Nat → Nat) (dA : Nat → ClassId) (k : Nat → Nat) (b v : Nat) (g : Nat → Int) (tm : Int32) (n : Nat) (H0 : Heap) (q : Nat) (hP : va_P (dC, dI) vwCl (kW b v dA g tm n ++ [(q, .inr (0, [.null, .int 0, .int 0, .int 0]))]) H0) (hbq : b ≠ q) (hvq : v ≠ q) (hkq : k 0 ≤ q) (htm : tm = 0 ∨ tm = 1) (hbv : b ≠ v) (hkb : k 0 ≤ b) (hkv : k 0 ≤ v) (hg : kG g) (hn : n < 16) : Met l yJ7_copyOfRangeByte_39247 ww_J7_copyOfRangeByte_39247 ({ frames := 2, cells := 1, slots := 16, locals := 80 }) (va_Pc [.ref v, .int (iZ 0), .int (iZ (((n : Nat) : Int)))] (fun U => U.heap = H0 ∧ kMJ dC dI dA k U)) (kQN dC dI (kW b v dA g tm n ++ [(q, .inr (0, [.null, .int 0, .int 0, .int 0]))]) (dA 2) n (fun j => iZ (cp g (fun _ => 0) n j)) (kAS b v q H0.size)) 1 16 (kAS b v q H0.size) := by
  refine va_MetF (cc := cJ7_copyOfRangeByte_39247) (maxL := 5) (ret := (some (.array .byte))) (by decide +kernel) rfl ?_
  intro p e s m args below meth c s₁ B hml hv
  obtain ⟨rfl, hH, hM⟩ := hv
  subst hH
  have hAN : ∀ a, kAS b v q s.heap.size a → k 0 ≤ a := kAS_N hkb hkv hkq hM.1.2.1.1
  have hS : va_S (kAS b v q s.heap.size) s.heap s.heap [] := va_S.rf
  have hD : va_D (kAS b v q s.heap.size) ([(b, .inr (1, [.ref v, .int 0, .int tm, .int (iZ (((n : Nat) : Int)))])), (v, .inl (dA 2, 16, .inl (fun j => iZ (g j)))), (q, .inr (0, [.null, .int 0, .int 0, .int 0]))] : va_W) := kW3_D hbv hbq hvq
  have hP : va_P (dC, dI) vwCl ([(b, .inr (1, [.ref v, .int 0, .int tm, .int (iZ (((n : Nat) : Int)))])), (v, .inl (dA 2, 16, .inl (fun j => iZ (g j)))), (q, .inr (0, [.null, .int 0, .int 0, .int 0]))] : va_W) s.heap := hP
  have hx := B.exec
  have hb := B.bytes
  have hr9 := B.returns
  have hts := atoms_spec (ws := ww_J7_copyOfRangeByte_39247) B.pre
  have hown : s.vm.findClass RJ7 = some m.cls := findClass_of_methodNamed B.named
  have hlocks := B.notSynchronized
  have hl := lv_entry ([.ref v, .int (iZ 0), .int (iZ (((n : Nat) : Int)))]) (n := 5) (Nat.le_of_ble_eq_true rfl)
  rw [lg_entry_eq]
  generalize (lg_sl ([.ref v, .int (iZ 0), .int (iZ (((n : Nat) : Int)))]) ++ List.replicate (5 - (lg_sl ([.ref v, .int (iZ 0), .int (iZ (((n : Nat) : Int)))])).length) Slot.unset).toArray = ls at hl ⊢
  have hl : lv_has ls 5 [(0, .ref v), (1, .int (iZ 0)), (2, .int (iZ (((n : Nat) : Int))))] := hl
  refine lv_iload_n hx hb dJ7_copyOfRangeByte_39247_0 rfl (lv_at hl 1 rfl) ?_
  refine lv_iload_n hx hb dJ7_copyOfRangeByte_39247_1 rfl (lv_at hl 2 rfl) ?_
  refine kc0v (fun _ q => q) (va_runS (As := [.int (iZ 0), .int (iZ (((n : Nat) : Int)))]) (rest := []) ⟨hx, hb, hml, hown, hts⟩ (c_J7_checkLength_df160 l _ (0) ((((n : Nat) : Int))) (by omega) (by omega) (by omega)) (va_cwS 2 hts (kg_S mw421 mw422 mw55 rfl mw423) rfl rfl rfl hdS_J7_checkLength_df160 ⟨Nat.le_of_ble_eq_true rfl, Nat.le_of_ble_eq_true rfl⟩) ⟨fun a U g mk q => q, fun U hU hW => ⟨rfl, hU⟩⟩ rfl rfl hl.1 rfl (lv_room (Nat.le_of_ble_eq_true rfl)) dJ7_copyOfRangeByte_39247_2 ⟨Nat.le_of_ble_eq_true rfl, Nat.le_of_ble_eq_true rfl⟩) ?_
  refine lv_iload_n hx hb dJ7_copyOfRangeByte_39247_5 rfl (lv_at hl 2 rfl) ?_
  refine lv_iload_n hx hb dJ7_copyOfRangeByte_39247_6 rfl (lv_at hl 1 rfl) ?_
  refine kz_isub hx hb dJ7_copyOfRangeByte_39247_7 ?_
  refine lv_istore_n (lv' := [(3, .int (iZ ((((n : Nat) : Int)) - 0))), (0, .ref v), (1, .int (iZ 0)), (2, .int (iZ (((n : Nat) : Int))))]) hx hb dJ7_copyOfRangeByte_39247_8 rfl hl (by decide) rfl (fun ls hl => ?_)
  refine lv_iload_n hx hb dJ7_copyOfRangeByte_39247_9 rfl (lv_at hl 0 rfl) ?_
  refine W.eq (g2 := F0 m 10 ls [.int (iZ ((n : Nat) : Int))]) (by rw [Int.sub_zero]) ?_
  refine kz_newB (N := n) hx hb (hts _ (List.mem_cons_of_mem _ mw96)) hM.1.1 hP hD hS kAS_new (by omega) (Nat.le_of_ble_eq_true rfl) (show (0 + n : Nat) ≤ 16 from by omega) dJ7_copyOfRangeByte_39247_10 (fun v_1 H hP hD hS => ?_)
  refine W.widen (k := 1) (n := 16) (Nat.le_refl 1) (show (0 + n : Nat) ≤ 16 from by omega) ?_
  have hP : va_P (dC, dI) vwCl ([(b, .inr (1, [.ref v, .int 0, .int tm, .int (iZ (((n : Nat) : Int)))])), (v, .inl (dA 2, 16, .inl (fun j => iZ (g j)))), (q, .inr (0, [.null, .int 0, .int 0, .int 0])), (v_1, .inl (dA 2, n, .inl (fun j => iZ ((fun _ => (0 : Int)) j))))] : va_W) _ := hP
  have hD : va_D (kAS b v q s.heap.size) ([(b, .inr (1, [.ref v, .int 0, .int tm, .int (iZ (((n : Nat) : Int)))])), (v, .inl (dA 2, 16, .inl (fun j => iZ (g j)))), (q, .inr (0, [.null, .int 0, .int 0, .int 0])), (v_1, .inl (dA 2, n, .inl (fun j => iZ ((fun _ => (0 : Int)) j))))] : va_W) := hD
  refine lv_astore (lv' := [(4, .ref v_1), (3, .int (iZ ((((n : Nat) : Int)) - 0))), (0, .ref v), (1, .int (iZ 0)), (2, .int (iZ (((n : Nat) : Int))))]) hx hb dJ7_copyOfRangeByte_39247_12 hl (by decide) rfl (fun ls hl => ?_)
  refine lv_aload_n hx hb dJ7_copyOfRangeByte_39247_14 rfl (lv_at hl 2 rfl) ?_
  refine lv_iload_n hx hb dJ7_copyOfRangeByte_39247_15 rfl (lv_at hl 3 rfl) ?_
  refine lv_aload hx hb dJ7_copyOfRangeByte_39247_16 (lv_at hl 0 rfl) ?_
  refine lv_iconst (v := iZ 0) hx hb dJ7_copyOfRangeByte_39247_18 rfl ?_
  refine lv_aload_n hx hb dJ7_copyOfRangeByte_39247_19 rfl (lv_at hl 2 rfl) ?_
  refine kz_blen hx hb hM.1.1 hP 1 rfl dJ7_copyOfRangeByte_39247_20 ?_
  refine W.eq (g2 := F0 m 21 ls [.int (iZ 16), .int (iZ 0), .ref v_1, .int (iZ 0), .ref v]) rfl ?_
  refine lv_iload_n hx hb dJ7_copyOfRangeByte_39247_21 rfl (lv_at hl 3 rfl) ?_
  refine kz_isub hx hb dJ7_copyOfRangeByte_39247_22 ?_
  refine lv_iload_n hx hb dJ7_copyOfRangeByte_39247_23 rfl (lv_at hl 1 rfl) ?_
  refine va_mmin hx hb (by rw [hml]; exact hl.1.symm) hown (hts _ (List.mem_cons_of_mem _ mw292)) (hts _ (List.mem_cons_of_mem _ mw293)) (hts _ (List.mem_cons_of_mem _ mw52)) (hts _ (List.mem_cons_of_mem _ mw294)) (Nat.le_of_ble_eq_true rfl) (Nat.le_of_ble_eq_true rfl) (Nat.le_of_ble_eq_true rfl) (Nat.le_of_ble_eq_true rfl) dJ7_copyOfRangeByte_39247_24 ?_
  rw [kmin_row (by omega) (by omega)]
  refine kz_copy (n := n) hx hb (by rw [hml]; exact hl.1.symm) hown (hts _ (List.mem_cons_of_mem _ mw295)) (hts _ (List.mem_cons_of_mem _ mw297)) (hts _ (List.mem_cons_of_mem _ mw296)) (hts _ (List.mem_cons_of_mem _ mw56)) hM.1.1 hP hD hS 1 3 rfl rfl hg (by unfold mn2; split <;> omega) (by omega) (by omega) (by omega) (Nat.le_of_ble_eq_true rfl) (Nat.le_of_ble_eq_true rfl) dJ7_copyOfRangeByte_39247_27 (fun H locs hP hD hS => ?_)
  have hP : va_P (dC, dI) vwCl ([(b, .inr (1, [.ref v, .int 0, .int tm, .int (iZ (((n : Nat) : Int)))])), (v, .inl (dA 2, 16, .inl (fun j => iZ (g j)))), (q, .inr (0, [.null, .int 0, .int 0, .int 0])), (v_1, .inl (dA 2, n, .inl (fun j => iZ ((cp (g) (fun _ => (0 : Int)) (n)) j))))] : va_W) _ := hP
  have hD : va_D (kAS b v q s.heap.size) ([(b, .inr (1, [.ref v, .int 0, .int tm, .int (iZ (((n : Nat) : Int)))])), (v, .inl (dA 2, 16, .inl (fun j => iZ (g j)))), (q, .inr (0, [.null, .int 0, .int 0, .int 0])), (v_1, .inl (dA 2, n, .inl (fun j => iZ ((cp (g) (fun _ => (0 : Int)) (n)) j))))] : va_W) := hD
  refine lv_aload hx hb dJ7_copyOfRangeByte_39247_30 (lv_at hl 0 rfl) ?_
  refine W.widen (k := 1) (n := 16) (Nat.le_of_ble_eq_true rfl) (Nat.le_of_ble_eq_true rfl) ?_
  have hsz : s.heap.size ≤ v_1 := by
    have h9 : kAS b v q s.heap.size v_1 := hD.2 3 _ rfl
    have g1 : v_1 ≠ b := fun z => absurd (hD.1 3 0 _ _ rfl rfl z) (by decide)
    have g2 : v_1 ≠ v := fun z => absurd (hD.1 3 1 _ _ rfl rfl z) (by decide)
    have g3 : v_1 ≠ q := fun z => absurd (hD.1 3 2 _ _ rfl rfl z) (by decide)
    rcases h9 with h9 | h9 | h9 | h9
    · exact absurd h9 g1
    · exact absurd h9 g2
    · exact absurd h9 g3
    · exact h9
  exact W.aret (rt := .array .byte) hx hb hr9 (Or.inr ⟨_, rfl⟩) (Or.inr ⟨_, rfl⟩) (fun t ht hW => ⟨v_1, ⟨rfl, by rw [ht]; exact hP, hsz⟩, hS.F ht⟩) hS.2.2 dJ7_copyOfRangeByte_39247_32 hlocks

abbrev ww_J7_copyOfRange_39247 : List Cond := .code yJ7_copyOfRange_39247 cJ7_copyOfRange_39247 3 (some (.array .byte)) :: gT
set_option maxHeartbeats 4000000 in
set_option maxRecDepth 100000 in
theorem c_J7_copyOfRange_39247 (l : Launch) (dC : Nat → ClassId) (dI : Nat → Nat → Nat) (dA : Nat → ClassId) (k : Nat → Nat) (b v : Nat) (g : Nat → Int) (tm : Int32) (n : Nat) (H0 : Heap) (q : Nat) (hP : va_P (dC, dI) vwCl (kW b v dA g tm n ++ [(q, .inr (0, [.null, .int 0, .int 0, .int 0]))]) H0) (hbq : b ≠ q) (hvq : v ≠ q) (hkq : k 0 ≤ q) (htm : tm = 0 ∨ tm = 1) (hbv : b ≠ v) (hkb : k 0 ≤ b) (hkv : k 0 ≤ v) (hg : kG g) (hn : n < 16) : Met l yJ7_copyOfRange_39247 ww_J7_copyOfRange_39247 ({ frames := 3, cells := 1, slots := 16, locals := 104 }) (va_Pc [.ref v, .int (iZ 0), .int (iZ (((n : Nat) : Int)))] (fun U => U.heap = H0 ∧ kMJ dC dI dA k U)) (kQN dC dI (kW b v dA g tm n ++ [(q, .inr (0, [.null, .int 0, .int 0, .int 0]))]) (dA 2) n (fun j => iZ (cp g (fun _ => 0) n j)) (kAS b v q H0.size)) 1 16 (kAS b v q H0.size) := by
  refine va_MetF (cc := cJ7_copyOfRange_39247) (maxL := 3) (ret := (some (.array .byte))) (by decide +kernel) rfl ?_
  intro p e s m args below meth c s₁ B hml hv
  obtain ⟨rfl, hH, hM⟩ := hv
  subst hH
  have hAN : ∀ a, kAS b v q s.heap.size a → k 0 ≤ a := kAS_N hkb hkv hkq hM.1.2.1.1
  have hS : va_S (kAS b v q s.heap.size) s.heap s.heap [] := va_S.rf
  have hD : va_D (kAS b v q s.heap.size) ([(b, .inr (1, [.ref v, .int 0, .int tm, .int (iZ (((n : Nat) : Int)))])), (v, .inl (dA 2, 16, .inl (fun j => iZ (g j)))), (q, .inr (0, [.null, .int 0, .int 0, .int 0]))] : va_W) := kW3_D hbv hbq hvq
  have hP : va_P (dC, dI) vwCl ([(b, .inr (1, [.ref v, .int 0, .int tm, .int (iZ (((n : Nat) : Int)))])), (v, .inl (dA 2, 16, .inl (fun j => iZ (g j)))), (q, .inr (0, [.null, .int 0, .int 0, .int 0]))] : va_W) s.heap := hP
  have hx := B.exec
  have hb := B.bytes
  have hr9 := B.returns
  have hts := atoms_spec (ws := ww_J7_copyOfRange_39247) B.pre
  have hown : s.vm.findClass RJ7 = some m.cls := findClass_of_methodNamed B.named
  have hlocks := B.notSynchronized
  have hl := lv_entry ([.ref v, .int (iZ 0), .int (iZ (((n : Nat) : Int)))]) (n := 3) (Nat.le_of_ble_eq_true rfl)
  rw [lg_entry_eq]
  generalize (lg_sl ([.ref v, .int (iZ 0), .int (iZ (((n : Nat) : Int)))]) ++ List.replicate (3 - (lg_sl ([.ref v, .int (iZ 0), .int (iZ (((n : Nat) : Int)))])).length) Slot.unset).toArray = ls at hl ⊢
  have hl : lv_has ls 3 [(0, .ref v), (1, .int (iZ 0)), (2, .int (iZ (((n : Nat) : Int))))] := hl
  refine lv_iload_n hx hb dJ7_copyOfRange_39247_0 rfl (lv_at hl 1 rfl) ?_
  refine kz_if_ne (tgt := 10) hx hb (by omega) dJ7_copyOfRange_39247_1 (by decide) (fun c_1 => absurd c_1 (by omega)) (fun c_1 => ?_)
  refine lv_iload_n hx hb dJ7_copyOfRange_39247_4 rfl (lv_at hl 2 rfl) ?_
  refine lv_aload_n hx hb dJ7_copyOfRange_39247_5 rfl (lv_at hl 0 rfl) ?_
  refine kz_blen hx hb hM.1.1 hP 1 rfl dJ7_copyOfRange_39247_6 ?_
  refine W.eq (g2 := F0 m 7 ls [.int (iZ 16), .int (iZ (((n : Nat) : Int)))]) rfl ?_
  refine kz_icmp_eq (tgt := 17) hx hb (by omega) (by omega) dJ7_copyOfRange_39247_7 (by decide) (fun c_2 => absurd c_2 (by omega)) (fun c_2 => ?_)
  refine lv_aload_n hx hb dJ7_copyOfRange_39247_10 rfl (lv_at hl 0 rfl) ?_
  refine lv_iload_n hx hb dJ7_copyOfRange_39247_11 rfl (lv_at hl 1 rfl) ?_
  refine lv_iload_n hx hb dJ7_copyOfRange_39247_12 rfl (lv_at hl 2 rfl) ?_
  refine kcN (w := (kW b v dA g tm n ++ [(q, .inr (0, [.null, .int 0, .int 0, .int 0]))])) (va_runS (As := [.ref v, .int (iZ 0), .int (iZ (((n : Nat) : Int)))]) (rest := []) ⟨hx, hb, hml, hown, hts⟩ (c_J7_copyOfRangeByte_39247 l dC dI dA k b v g tm n _ q hP hbq hvq hkq htm hbv hkb hkv hg hn) (va_cwS 3 hts (kg_S mw418 mw419 mw55 rfl mw420) rfl rfl rfl hdS_J7_copyOfRangeByte_39247 ⟨Nat.le_of_ble_eq_true rfl, Nat.le_of_ble_eq_true rfl⟩) ⟨fun a U g mk q => ⟨q.1, q.2.1, kMJ_call q.2.2⟩, fun U hU hW => ⟨rfl, hU, kMJ_kept hM hS hAN hU hW⟩⟩ rfl rfl hl.1 rfl (lv_room (Nat.le_of_ble_eq_true rfl)) dJ7_copyOfRange_39247_13 ⟨Nat.le_of_ble_eq_true rfl, Nat.le_of_ble_eq_true rfl⟩) hS hD hP (fun a _ h => kAS_up hS.1 a h) (fun a h => kAS_up hS.1 a h) (fun a h => kAS_new a h) (fun w_3 H locs hP hD hS => ?_)
  have hP : va_P (dC, dI) vwCl ([(b, .inr (1, [.ref v, .int 0, .int tm, .int (iZ (((n : Nat) : Int)))])), (v, .inl (dA 2, 16, .inl (fun j => iZ (g j)))), (q, .inr (0, [.null, .int 0, .int 0, .int 0])), (w_3, .inl (dA 2, n, .inl (fun j => iZ ((cp g (fun _ => 0) n) j))))] : va_W) _ := hP
  have hD : va_D (kAS b v q s.heap.size) ([(b, .inr (1, [.ref v, .int 0, .int tm, .int (iZ (((n : Nat) : Int)))])), (v, .inl (dA 2, 16, .inl (fun j => iZ (g j)))), (q, .inr (0, [.null, .int 0, .int 0, .int 0])), (w_3, .inl (dA 2, n, .inl (fun j => iZ ((cp g (fun _ => 0) n) j))))] : va_W) := hD
  refine W.widen (k := 1) (n := 16) (Nat.le_of_ble_eq_true rfl) (Nat.le_of_ble_eq_true rfl) ?_
  have hsz : s.heap.size ≤ w_3 := by
    have h9 : kAS b v q s.heap.size w_3 := hD.2 3 _ rfl
    have g1 : w_3 ≠ b := fun z => absurd (hD.1 3 0 _ _ rfl rfl z) (by decide)
    have g2 : w_3 ≠ v := fun z => absurd (hD.1 3 1 _ _ rfl rfl z) (by decide)
    have g3 : w_3 ≠ q := fun z => absurd (hD.1 3 2 _ _ rfl rfl z) (by decide)
    rcases h9 with h9 | h9 | h9 | h9
    · exact absurd h9 g1
    · exact absurd h9 g2
    · exact absurd h9 g3
    · exact h9
  exact W.aret (rt := .array .byte) hx hb hr9 (Or.inr ⟨_, rfl⟩) (Or.inr ⟨_, rfl⟩) (fun t ht hW => ⟨w_3, ⟨rfl, by rw [ht]; exact hP, hsz⟩, hS.F ht⟩) hS.2.2 dJ7_copyOfRange_39247_16 hlocks

abbrev ww_J5_getValue_6d5f1 : List Cond := .code yJ5_getValue_6d5f1 cJ5_getValue_6d5f1 1 (some (.array .byte)) :: gT
set_option maxHeartbeats 4000000 in
set_option maxRecDepth 100000 in
/-- J5_getValue_6d5f1 -/
theorem c_J5_getValue_6d5f1 (l : Launch) (dC : Nat → ClassId) (dI : Nat → Nat → Nat) (dA : Nat → ClassId) (k : Nat → Nat) (b v : Nat) (g : Nat → Int) (tm : Int32) (n : Nat) (H0 : Heap) (hP : va_P (dC, dI) vwCl (kW b v dA g tm n) H0) (htm : tm = 0 ∨ tm = 1) (hbv : b ≠ v) (hkb : k 0 ≤ b) (hkv : k 0 ≤ v) (hg : kG g) (hn : n ≤ 16)   : Met l yJ5_getValue_6d5f1 ww_J5_getValue_6d5f1 ({ frames := 0, cells := 0, slots := 0, locals := 0 }) (va_Pc [.ref b] (fun U => U.heap = H0 ∧ kMJ dC dI dA k U)) (kQ0 (some (.ref v)) H0) 0 0 kN := by
  refine va_MetF (cc := cJ5_getValue_6d5f1) (maxL := 1) (ret := (some (.array .byte))) (by decide +kernel) rfl ?_
  intro p e s m args below meth c s₁ B hml hv
  obtain ⟨rfl, hH, hM⟩ := hv
  subst hH
  have hAN : ∀ a, kAB b v s.heap.size a → k 0 ≤ a := kAB_N hkb hkv hM.1.2.1.1
  have hS : va_S (kAB b v s.heap.size) s.heap s.heap [] := va_S.rf
  have hD : va_D (kAB b v s.heap.size) ([(b, .inr (1, [.ref v, .int 0, .int tm, .int (iZ (((n : Nat) : Int)))])), (v, .inl (dA 2, 16, .inl (fun j => iZ (g j))))] : va_W) := kW_D hbv
  have hP : va_P (dC, dI) vwCl ([(b, .inr (1, [.ref v, .int 0, .int tm, .int (iZ (((n : Nat) : Int)))])), (v, .inl (dA 2, 16, .inl (fun j => iZ (g j))))] : va_W) s.heap := hP
  have hx := B.exec
  have hb := B.bytes
  have hr9 := B.returns
  have hts := atoms_spec (ws := ww_J5_getValue_6d5f1) B.pre
  have hown : s.vm.findClass RJ5 = some m.cls := findClass_of_methodNamed B.named
  have hlocks := B.notSynchronized
  have hl := lv_entry ([.ref b]) (n := 1) (Nat.le_of_ble_eq_true rfl)
  rw [lg_entry_eq]
  generalize (lg_sl ([.ref b]) ++ List.replicate (1 - (lg_sl ([.ref b])).length) Slot.unset).toArray = ls at hl ⊢
  have hl : lv_has ls 1 [(0, .ref b)] := hl
  refine lv_aload_n hx hb dJ5_getValue_6d5f1_0 rfl (lv_at hl 0 rfl) ?_
  refine va_get (D := (dC, dI)) (ci := 1) (v := .ref v) (C := RJ4) (T := TJ4) (N := 4) hx hb hts (fun w h => List.mem_cons_of_mem _ (gF_3_in h)) hown hM.1.1 hP 0 rfl rfl 0 (by decide) (hts _ (List.mem_cons_of_mem _ mw88)) (fun _ h9 => h9) rfl dJ5_getValue_6d5f1_1 ?_
  exact W.aret (rt := .array .byte) hx hb hr9 (Or.inr ⟨_, rfl⟩) (Or.inr ⟨_, rfl⟩) (fun t ht hW => ⟨rfl, ht⟩) (fun q h => by cases h) dJ5_getValue_6d5f1_4 hlocks

abbrev ww_J0_init_db425 : List Cond := .code yJ0_init_db425 cJ0_init_db425 5 none :: gT
set_option maxHeartbeats 4000000 in
set_option maxRecDepth 100000 in
theorem c_J0_init_db425 (l : Launch) (dC : Nat → ClassId) (dI : Nat → Nat → Nat) (dA : Nat → ClassId) (k : Nat → Nat) (b v : Nat) (g : Nat → Int) (tm : Int32) (n : Nat) (H0 : Heap) (q : Nat) (hP : va_P (dC, dI) vwCl (kW b v dA g tm n ++ [(q, .inr (0, [.null, .int 0, .int 0, .int 0]))]) H0) (hbq : b ≠ q) (hvq : v ≠ q) (hkq : k 0 ≤ q) (htm : tm = 0 ∨ tm = 1) (hbv : b ≠ v) (hkb : k 0 ≤ b) (hkv : k 0 ≤ v) (hg : kG g) (hn : n < 16) : Met l yJ0_init_db425 ww_J0_init_db425 ({ frames := 4, cells := 1, slots := 16, locals := 126 }) (va_Pc [.ref q, .ref b, .null] (fun U => U.heap = H0 ∧ kMJ dC dI dA k U)) (kQ2 none (fun H => ∃ w : Nat, H0.size ≤ w ∧ va_P (dC, dI) vwCl (kW b v dA g tm n ++ kS q w dA (cp g (fun _ => 0) n) n) H) (kAS b v q H0.size)) 1 16 (kAS b v q H0.size) := by
  refine va_MetF (cc := cJ0_init_db425) (maxL := 5) (ret := none) (by decide +kernel) rfl ?_
  intro p e s m args below meth c s₁ B hml hv
  obtain ⟨rfl, hH, hM⟩ := hv
  subst hH
  have hAN : ∀ a, kAS b v q s.heap.size a → k 0 ≤ a := kAS_N hkb hkv hkq hM.1.2.1.1
  have hS : va_S (kAS b v q s.heap.size) s.heap s.heap [] := va_S.rf
  have hD : va_D (kAS b v q s.heap.size) ([(b, .inr (1, [.ref v, .int 0, .int tm, .int (iZ (((n : Nat) : Int)))])), (v, .inl (dA 2, 16, .inl (fun j => iZ (g j)))), (q, .inr (0, [.null, .int 0, .int 0, .int 0]))] : va_W) := kW3_D hbv hbq hvq
  have hP : va_P (dC, dI) vwCl ([(b, .inr (1, [.ref v, .int 0, .int tm, .int (iZ (((n : Nat) : Int)))])), (v, .inl (dA 2, 16, .inl (fun j => iZ (g j)))), (q, .inr (0, [.null, .int 0, .int 0, .int 0]))] : va_W) s.heap := hP
  have hx := B.exec
  have hb := B.bytes
  have hr9 := B.returns
  have hin : meth.name = "<init>" := (name_of_methodNamed B.named B.method).1
  have hts := atoms_spec (ws := ww_J0_init_db425) B.pre
  have hown : s.vm.findClass RJ0 = some m.cls := findClass_of_methodNamed B.named
  have hlocks := B.notSynchronized
  have hl := lv_entry ([.ref q, .ref b, .null]) (n := 5) (Nat.le_of_ble_eq_true rfl)
  rw [lg_entry_eq]
  generalize (lg_sl ([.ref q, .ref b, .null]) ++ List.replicate (5 - (lg_sl ([.ref q, .ref b, .null])).length) Slot.unset).toArray = ls at hl ⊢
  have hl : lv_has ls 5 [(0, .ref q), (1, .ref b), (2, .null)] := hl
  refine lv_aload_n hx hb dJ0_init_db425_0 rfl (lv_at hl 0 rfl) ?_
  refine W.objInit hx hb hown (hts _ (List.mem_cons_of_mem _ mw400)) (hts _ (List.mem_cons_of_mem _ mw69)) (hts _ (List.mem_cons_of_mem _ mw70)) rfl (by rw [hml]; exact hl.1) rfl dJ0_init_db425_1 (Nat.le_of_ble_eq_true rfl) (Nat.le_of_ble_eq_true rfl) ?_
  refine W.eq (g2 := F0 m 4 ls []) rfl ?_
  refine lv_aload_n hx hb dJ0_init_db425_4 rfl (lv_at hl 1 rfl) ?_
  refine kc0 (fun _ q => q) (va_runU (As := []) (rest := []) ⟨hx, hb, hml, hown, hts⟩ (c_J5_getValue_6d5f1 l dC dI dA k b v (g) (tm) (n) _ (hP.sub [0, 1] rfl) htm hbv hkb hkv hg (by omega) ) (va_cwU 0 hts (kg_U (C := RJ4) (owner := "java/lang/AbstractStringBuilder") (x := ⟨"java/lang/AbstractStringBuilder", "getValue", "()[B"⟩) mw401 mw403 mw404 mw402 mw43 rfl mw405) rfl rfl rfl rfl (by decide +kernel) ⟨Nat.le_of_ble_eq_true rfl, Nat.le_of_ble_eq_true rfl⟩) ⟨fun a U g mk q => ⟨q.1, q.2.1, kMJ_call q.2.2⟩, va_recv hM.1.1 hP (ci := 1) (q0 := 0) rfl rfl, fun U hU hW => ⟨rfl, hU, kMJ_kept hM hS hAN hU hW⟩⟩ rfl rfl hl.1 rfl (lv_room (Nat.le_of_ble_eq_true rfl)) dJ0_init_db425_5 ⟨Nat.le_of_ble_eq_true rfl, Nat.le_of_ble_eq_true rfl⟩) ?_
  refine lv_astore_n (lv' := [(3, .ref v), (0, .ref q), (1, .ref b), (2, .null)]) hx hb dJ0_init_db425_8 rfl hl (by decide) rfl (fun ls hl => ?_)
  refine lv_aload_n hx hb dJ0_init_db425_9 rfl (lv_at hl 2 rfl) ?_
  refine kc0 (fun _ q => q) (va_runU (As := []) (rest := []) ⟨hx, hb, hml, hown, hts⟩ (c_J4_length_8abf5 l dC dI dA k b v (g) (tm) (n) _ (hP.sub [0, 1] rfl) htm hbv hkb hkv hg (by omega) ) (va_cwO 0 hts (kg_O (C := RJ4) (owner := "java/lang/AbstractStringBuilder") (x := ⟨"java/lang/AbstractStringBuilder", "length", "()I"⟩) mw406 mw408 mw407 mw409 mw410 mw44 rfl mw411) rfl rfl rfl (List.mem_cons_of_mem _ mw413) (by decide +kernel) ⟨Nat.le_of_ble_eq_true rfl, Nat.le_of_ble_eq_true rfl⟩) ⟨fun a U g mk q => ⟨q.1, q.2.1, kMJ_call q.2.2⟩, va_recv hM.1.1 hP (ci := 1) (q0 := 0) rfl rfl, fun U hU hW => ⟨rfl, hU, kMJ_kept hM hS hAN hU hW⟩⟩ rfl rfl hl.1 rfl (lv_room (Nat.le_of_ble_eq_true rfl)) dJ0_init_db425_10 ⟨Nat.le_of_ble_eq_true rfl, Nat.le_of_ble_eq_true rfl⟩) ?_
  refine lv_istore (lv' := [(4, .int (iZ (((n : Nat) : Int)))), (3, .ref v), (0, .ref q), (1, .ref b), (2, .null)]) hx hb dJ0_init_db425_13 hl (by decide) rfl (fun ls hl => ?_)
  refine lv_aload_n hx hb dJ0_init_db425_15 rfl (lv_at hl 3 rfl) ?_
  refine kc0 (fun _ q => q) (va_runU (As := []) (rest := []) ⟨hx, hb, hml, hown, hts⟩ (c_J5_isLatin1_aae02 l dC dI dA k b v (g) (tm) (n) _ (hP.sub [0, 1] rfl) htm hbv hkb hkv hg (by omega) ) (va_cwU 0 hts (kg_U (C := RJ4) (owner := "java/lang/AbstractStringBuilder") (x := ⟨"java/lang/AbstractStringBuilder", "isLatin1", "()Z"⟩) mw414 mw300 mw301 mw299 mw43 rfl mw302) rfl rfl rfl rfl (by decide +kernel) ⟨Nat.le_of_ble_eq_true rfl, Nat.le_of_ble_eq_true rfl⟩) ⟨fun a U g mk q => ⟨q.1, q.2.1, kMJ_call q.2.2⟩, va_recv hM.1.1 hP (ci := 1) (q0 := 0) rfl rfl, fun U hU hW => ⟨rfl, hU, kMJ_kept hM hS hAN hU hW⟩⟩ rfl rfl hl.1 rfl (lv_room (Nat.le_of_ble_eq_true rfl)) dJ0_init_db425_16 ⟨Nat.le_of_ble_eq_true rfl, Nat.le_of_ble_eq_true rfl⟩) ?_
  refine kz_ifb_eq (tgt := 41) hx hb  dJ0_init_db425_19 (by decide) (fun c_1 => absurd c_1 (by decide)) (fun c_1 => ?_)
  refine lv_aload_n hx hb dJ0_init_db425_22 rfl (lv_at hl 2 rfl) ?_
  refine lv_iconst (v := iZ 0) hx hb dJ0_init_db425_23 rfl ?_
  refine va_putF (D := (dC, dI)) (ci := 0) (v := .int (iZ 0)) (ty := .byte) (C := RJ0) (T := TJ0) (N := 4) hx hb hts (fun w h => List.mem_cons_of_mem _ (gF_4_in h)) tyJ0 tyJ0_ok nmJ0 hown hM.1.1 hP hD hS 2 rfl rfl 1 (by decide) (hts _ (List.mem_cons_of_mem _ mw439)) (fun _ h9 => h9) rfl hin rfl (by decide +kernel) rfl rfl (Nat.le_of_ble_eq_true rfl) dJ0_init_db425_24 (fun H locs hP hD hS => ?_)
  have hP : va_P (dC, dI) vwCl ([(b, .inr (1, [.ref v, .int 0, .int tm, .int (iZ (((n : Nat) : Int)))])), (v, .inl (dA 2, 16, .inl (fun j => iZ (g j)))), (q, .inr (0, [.null, .int (iZ 0), .int 0, .int 0]))] : va_W) _ := hP
  have hD : va_D (kAS b v q s.heap.size) ([(b, .inr (1, [.ref v, .int 0, .int tm, .int (iZ (((n : Nat) : Int)))])), (v, .inl (dA 2, 16, .inl (fun j => iZ (g j)))), (q, .inr (0, [.null, .int (iZ 0), .int 0, .int 0]))] : va_W) := hD
  refine lv_aload_n hx hb dJ0_init_db425_27 rfl (lv_at hl 2 rfl) ?_
  refine lv_aload_n hx hb dJ0_init_db425_28 rfl (lv_at hl 1 rfl) ?_
  refine lv_iconst (v := iZ 0) hx hb dJ0_init_db425_29 rfl ?_
  refine lv_iload hx hb dJ0_init_db425_30 (lv_at hl 0 rfl) ?_
  refine kcN (w := (kW b v dA g tm n ++ [(q, .inr (0, [.null, .int 0, .int 0, .int 0]))])) (va_runS (As := [.ref v, .int (iZ 0), .int (iZ (((n : Nat) : Int)))]) (rest := [.ref q]) ⟨hx, hb, hml, hown, hts⟩ (c_J7_copyOfRange_39247 l dC dI dA k b v g tm n _ q hP hbq hvq hkq htm hbv hkb hkv hg hn) (va_cwS 3 hts (kg_S mw415 mw416 mw55 rfl mw417) rfl rfl rfl hdS_J7_copyOfRange_39247 ⟨Nat.le_of_ble_eq_true rfl, Nat.le_of_ble_eq_true rfl⟩) ⟨fun a U g mk q => ⟨q.1, q.2.1, kMJ_call q.2.2⟩, fun U hU hW => ⟨rfl, hU, kMJ_kept hM hS hAN hU hW⟩⟩ rfl rfl hl.1 rfl (lv_room (Nat.le_of_ble_eq_true rfl)) dJ0_init_db425_32 ⟨Nat.le_of_ble_eq_true rfl, Nat.le_of_ble_eq_true rfl⟩) hS hD hP (fun a _ h => kAS_up hS.1 a h) (fun a h => kAS_up hS.1 a h) (fun a h => kAS_new a h) (fun w_2 H locs hP hD hS => ?_)
  have hP : va_P (dC, dI) vwCl ([(b, .inr (1, [.ref v, .int 0, .int tm, .int (iZ (((n : Nat) : Int)))])), (v, .inl (dA 2, 16, .inl (fun j => iZ (g j)))), (q, .inr (0, [.null, .int (iZ 0), .int 0, .int 0])), (w_2, .inl (dA 2, n, .inl (fun j => iZ ((cp g (fun _ => 0) n) j))))] : va_W) _ := hP
  have hD : va_D (kAS b v q s.heap.size) ([(b, .inr (1, [.ref v, .int 0, .int tm, .int (iZ (((n : Nat) : Int)))])), (v, .inl (dA 2, 16, .inl (fun j => iZ (g j)))), (q, .inr (0, [.null, .int (iZ 0), .int 0, .int 0])), (w_2, .inl (dA 2, n, .inl (fun j => iZ ((cp g (fun _ => 0) n) j))))] : va_W) := hD
  refine va_putF (D := (dC, dI)) (ci := 0) (v := .ref w_2) (ty := .array .byte) (C := RJ0) (T := TJ0) (N := 4) hx hb hts (fun w h => List.mem_cons_of_mem _ (gF_4_in h)) tyJ0 tyJ0_ok nmJ0 hown hM.1.1 hP hD hS 2 rfl rfl 0 (by decide) (hts _ (List.mem_cons_of_mem _ mw438)) (fun _ h9 => h9) rfl hin rfl (by decide +kernel) rfl rfl (Nat.le_of_ble_eq_true rfl) dJ0_init_db425_35 (fun H locs hP hD hS => ?_)
  have hP : va_P (dC, dI) vwCl ([(b, .inr (1, [.ref v, .int 0, .int tm, .int (iZ (((n : Nat) : Int)))])), (v, .inl (dA 2, 16, .inl (fun j => iZ (g j)))), (q, .inr (0, [.ref w_2, .int (iZ 0), .int 0, .int 0])), (w_2, .inl (dA 2, n, .inl (fun j => iZ ((cp g (fun _ => 0) n) j))))] : va_W) _ := hP
  have hD : va_D (kAS b v q s.heap.size) ([(b, .inr (1, [.ref v, .int 0, .int tm, .int (iZ (((n : Nat) : Int)))])), (v, .inl (dA 2, 16, .inl (fun j => iZ (g j)))), (q, .inr (0, [.ref w_2, .int (iZ 0), .int 0, .int 0])), (w_2, .inl (dA 2, n, .inl (fun j => iZ ((cp g (fun _ => 0) n) j))))] : va_W) := hD
  refine lv_goto (tgt := 97) hx hb dJ0_init_db425_38 (by decide) ?_
  refine W.widen (k := 1) (n := 16) (Nat.le_of_ble_eq_true rfl) (Nat.le_of_ble_eq_true rfl) ?_
  have hsz : s.heap.size ≤ w_2 := by
    have h9 : kAS b v q s.heap.size w_2 := hD.2 3 _ rfl
    have g1 : w_2 ≠ b := fun z => absurd (hD.1 3 0 _ _ rfl rfl z) (by decide)
    have g2 : w_2 ≠ v := fun z => absurd (hD.1 3 1 _ _ rfl rfl z) (by decide)
    have g3 : w_2 ≠ q := fun z => absurd (hD.1 3 2 _ _ rfl rfl z) (by decide)
    rcases h9 with h9 | h9 | h9 | h9
    · exact absurd h9 g1
    · exact absurd h9 g2
    · exact absurd h9 g3
    · exact h9
  have hP : va_P (dC, dI) vwCl (kW b v dA g tm n ++ kS q w_2 dA (cp g (fun _ => 0) n) n) _ := hP
  exact W.vret hx hb hr9 (fun t ht hW => ⟨⟨rfl, w_2, hsz, by rw [ht]; exact hP⟩, hS.F ht⟩) hS.2.2 dJ0_init_db425_97

abbrev ww_J0_init_81219 : List Cond := .code yJ0_init_81219 cJ0_init_81219 2 none :: gT
set_option maxHeartbeats 4000000 in
set_option maxRecDepth 100000 in
theorem c_J0_init_81219 (l : Launch) (dC : Nat → ClassId) (dI : Nat → Nat → Nat) (dA : Nat → ClassId) (k : Nat → Nat) (b v : Nat) (g : Nat → Int) (tm : Int32) (n : Nat) (H0 : Heap) (q : Nat) (hP : va_P (dC, dI) vwCl (kW b v dA g tm n ++ [(q, .inr (0, [.null, .int 0, .int 0, .int 0]))]) H0) (hbq : b ≠ q) (hvq : v ≠ q) (hkq : k 0 ≤ q) (htm : tm = 0 ∨ tm = 1) (hbv : b ≠ v) (hkb : k 0 ≤ b) (hkv : k 0 ≤ v) (hg : kG g) (hn : n < 16) : Met l yJ0_init_81219 ww_J0_init_81219 ({ frames := 5, cells := 1, slots := 16, locals := 150 }) (va_Pc [.ref q, .ref b] (fun U => U.heap = H0 ∧ kMJ dC dI dA k U)) (kQ2 none (fun H => ∃ w : Nat, H0.size ≤ w ∧ va_P (dC, dI) vwCl (kW b v dA g tm n ++ kS q w dA (cp g (fun _ => 0) n) n) H) (kAS b v q H0.size)) 1 16 (kAS b v q H0.size) := by
  refine va_MetF (cc := cJ0_init_81219) (maxL := 2) (ret := none) (by decide +kernel) rfl ?_
  intro p e s m args below meth c s₁ B hml hv
  obtain ⟨rfl, hH, hM⟩ := hv
  subst hH
  have hAN : ∀ a, kAS b v q s.heap.size a → k 0 ≤ a := kAS_N hkb hkv hkq hM.1.2.1.1
  have hS : va_S (kAS b v q s.heap.size) s.heap s.heap [] := va_S.rf
  have hD : va_D (kAS b v q s.heap.size) ([(b, .inr (1, [.ref v, .int 0, .int tm, .int (iZ (((n : Nat) : Int)))])), (v, .inl (dA 2, 16, .inl (fun j => iZ (g j)))), (q, .inr (0, [.null, .int 0, .int 0, .int 0]))] : va_W) := kW3_D hbv hbq hvq
  have hP : va_P (dC, dI) vwCl ([(b, .inr (1, [.ref v, .int 0, .int tm, .int (iZ (((n : Nat) : Int)))])), (v, .inl (dA 2, 16, .inl (fun j => iZ (g j)))), (q, .inr (0, [.null, .int 0, .int 0, .int 0]))] : va_W) s.heap := hP
  have hx := B.exec
  have hb := B.bytes
  have hr9 := B.returns
  have hin : meth.name = "<init>" := (name_of_methodNamed B.named B.method).1
  have hts := atoms_spec (ws := ww_J0_init_81219) B.pre
  have hown : s.vm.findClass RJ0 = some m.cls := findClass_of_methodNamed B.named
  have hlocks := B.notSynchronized
  have hl := lv_entry ([.ref q, .ref b]) (n := 2) (Nat.le_of_ble_eq_true rfl)
  rw [lg_entry_eq]
  generalize (lg_sl ([.ref q, .ref b]) ++ List.replicate (2 - (lg_sl ([.ref q, .ref b])).length) Slot.unset).toArray = ls at hl ⊢
  have hl : lv_has ls 2 [(0, .ref q), (1, .ref b)] := hl
  refine lv_aload_n hx hb dJ0_init_81219_0 rfl (lv_at hl 0 rfl) ?_
  refine lv_aload_n hx hb dJ0_init_81219_1 rfl (lv_at hl 1 rfl) ?_
  refine lv_null hx hb dJ0_init_81219_2 ?_
  refine kc2 (va_runI (As := [.ref b, .null]) (rest := []) ⟨hx, hb, hml, hown, hts⟩ (c_J0_init_db425 l dC dI dA k b v g tm n _ q hP hbq hvq hkq htm hbv hkb hkv hg hn) (cwI 2 hts (kg_G rfl mw399) rfl rfl rfl (hts _ (List.mem_cons_of_mem _ mw45)) (hts _ (List.mem_cons_of_mem _ mw397)) (hts _ (List.mem_cons_of_mem _ mw398)) rfl (by decide +kernel) ⟨Nat.le_of_ble_eq_true rfl, Nat.le_of_ble_eq_true rfl⟩) ⟨fun a U g mk q => ⟨q.1, q.2.1, kMJ_call q.2.2⟩, fun U hU hW => ⟨rfl, hU, kMJ_kept hM hS hAN hU hW⟩⟩ rfl rfl hl.1 rfl (lv_room (Nat.le_of_ble_eq_true rfl)) dJ0_init_81219_3 ⟨Nat.le_of_ble_eq_true rfl, Nat.le_of_ble_eq_true rfl⟩) hS (fun a _ h => kAS_up hS.1 a h) (fun a h => kAS_up hS.1 a h) (fun H locs hG hz9 hk9 hS => ?_)
  obtain ⟨w9, hsz, hP⟩ := hG
  refine W.widen (k := 1) (n := 16) (Nat.le_of_ble_eq_true rfl) (Nat.le_of_ble_eq_true rfl) ?_
  have hP : va_P (dC, dI) vwCl (kW b v dA g tm n ++ kS q w9 dA (cp g (fun _ => 0) n) n) _ := hP
  exact W.vret hx hb hr9 (fun t ht hW => ⟨⟨rfl, w9, hsz, by rw [ht]; exact hP⟩, hS.F ht⟩) hS.2.2 dJ0_init_81219_6

/-- a new text q of the n letters, the builder as it was -/
def kQS (dC : Nat → ClassId) (dI : Nat → Nat → Nat) (dA : Nat → ClassId) (b v : Nat) (g : Nat → Int) (tm : Int32) (n : Nat) : Array Value → State → Outcome → State → Prop := fun _ st oc t => ∃ q w : Nat, (oc = .returned (some (.ref q)) ∧ st.heap.size ≤ q ∧ st.heap.size ≤ w ∧ q ≠ w ∧ va_P (dC, dI) vwCl (kW b v dA g tm n ++ kS q w dA (cp g (fun _ => 0) n) n) t.heap) ∧ va_F (kAB b v st.heap.size) st t
abbrev ww_J4_toString_0e30d : List Cond := .code yJ4_toString_0e30d cJ4_toString_0e30d 1 (some (.object "java/lang/String")) :: gT
set_option maxHeartbeats 4000000 in
set_option maxRecDepth 100000 in
theorem c_J4_toString_0e30d (l : Launch) (dC : Nat → ClassId) (dI : Nat → Nat → Nat) (dA : Nat → ClassId) (k : Nat → Nat) (b v : Nat) (g : Nat → Int) (tm : Int32) (n : Nat) (H0 : Heap) (hP : va_P (dC, dI) vwCl (kW b v dA g tm n) H0) (htm : tm = 0 ∨ tm = 1) (hbv : b ≠ v) (hkb : k 0 ≤ b) (hkv : k 0 ≤ v) (hg : kG g) (hn : n < 16) : Met l yJ4_toString_0e30d ww_J4_toString_0e30d ({ frames := 6, cells := 2, slots := 20, locals := 171 }) (va_Pc [.ref b] (fun U => U.heap = H0 ∧ kMJ dC dI dA k U)) (kQS dC dI dA b v g tm n) 2 20 (kAB b v H0.size) := by
  refine va_MetF (cc := cJ4_toString_0e30d) (maxL := 1) (ret := (some (.object "java/lang/String"))) (by decide +kernel) rfl ?_
  intro p e s m args below meth c s₁ B hml hv
  obtain ⟨rfl, hH, hM⟩ := hv
  subst hH
  have hAN : ∀ a, kAB b v s.heap.size a → k 0 ≤ a := kAB_N hkb hkv hM.1.2.1.1
  have hS : va_S (kAB b v s.heap.size) s.heap s.heap [] := va_S.rf
  have hD : va_D (kAB b v s.heap.size) ([(b, .inr (1, [.ref v, .int 0, .int tm, .int (iZ (((n : Nat) : Int)))])), (v, .inl (dA 2, 16, .inl (fun j => iZ (g j))))] : va_W) := kW_D hbv
  have hP : va_P (dC, dI) vwCl ([(b, .inr (1, [.ref v, .int 0, .int tm, .int (iZ (((n : Nat) : Int)))])), (v, .inl (dA 2, 16, .inl (fun j => iZ (g j))))] : va_W) s.heap := hP
  have hx := B.exec
  have hb := B.bytes
  have hr9 := B.returns
  have hts := atoms_spec (ws := ww_J4_toString_0e30d) B.pre
  have hown : s.vm.findClass RJ4 = some m.cls := findClass_of_methodNamed B.named
  have hlocks := B.notSynchronized
  have hl := lv_entry ([.ref b]) (n := 1) (Nat.le_of_ble_eq_true rfl)
  rw [lg_entry_eq]
  generalize (lg_sl ([.ref b]) ++ List.replicate (1 - (lg_sl ([.ref b])).length) Slot.unset).toArray = ls at hl ⊢
  have hl : lv_has ls 1 [(0, .ref b)] := hl
  refine va_new (ci := 0) (fs := [.null, .int 0, .int 0, .int 0]) (C := RJ0) (T := TJ0) (N := 4) hx hb hts (fun w h => List.mem_cons_of_mem _ (gF_4_in h)) tyJ0 tyJ0_ok hown (hts _ (List.mem_cons_of_mem _ mw392)) (hts _ (List.mem_cons_of_mem _ mw393)) (hts _ (List.mem_cons_of_mem _ mw45)) hM.1.1 hP hD hS kAB_new rfl (fun j hj => by rcases (show j = 0 ∨ j = 1 ∨ j = 2 ∨ j = 3 by omega) with rfl | rfl | rfl | rfl <;> rfl) (Nat.le_of_ble_eq_true rfl) (Nat.le_of_ble_eq_true rfl) dJ4_toString_0e30d_0 (fun q H hP hD hS => ?_)
  have hP : va_P (dC, dI) vwCl ([(b, .inr (1, [.ref v, .int 0, .int tm, .int (iZ (((n : Nat) : Int)))])), (v, .inl (dA 2, 16, .inl (fun j => iZ (g j)))), (q, .inr (0, [.null, .int 0, .int 0, .int 0]))] : va_W) _ := hP
  have hD : va_D (kAB b v s.heap.size) ([(b, .inr (1, [.ref v, .int 0, .int tm, .int (iZ (((n : Nat) : Int)))])), (v, .inl (dA 2, 16, .inl (fun j => iZ (g j)))), (q, .inr (0, [.null, .int 0, .int 0, .int 0]))] : va_W) := hD
  have hqn : kAB b v s.heap.size q := hD.2 2 _ rfl
  have hbq : b ≠ q := fun z => absurd (hD.1 0 2 _ _ rfl rfl z) (by decide)
  have hvq : v ≠ q := fun z => absurd (hD.1 1 2 _ _ rfl rfl z) (by decide)
  have hqs : s.heap.size ≤ q := hqn.elim (fun z => absurd z.symm hbq) (fun z => z.elim (fun y => absurd y.symm hvq) id)
  have hqlt : q < H.size := (hP 2 _ rfl).lt
  refine lv_dup hx hb dJ4_toString_0e30d_3 rfl ?_
  refine lv_aload_n hx hb dJ4_toString_0e30d_4 rfl (lv_at hl 0 rfl) ?_
  refine kc2 (va_runI (As := [.ref b]) (rest := [.ref q]) ⟨hx, hb, hml, hown, hts⟩ (c_J0_init_81219 l dC dI dA k b v g tm n _ q hP hbq hvq (hAN _ hqn) htm hbv hkb hkv hg hn) (cwI 1 hts (kg_G rfl mw396) rfl rfl rfl (hts _ (List.mem_cons_of_mem _ mw45)) (hts _ (List.mem_cons_of_mem _ mw394)) (hts _ (List.mem_cons_of_mem _ mw395)) rfl (by decide +kernel) ⟨Nat.le_of_ble_eq_true rfl, Nat.le_of_ble_eq_true rfl⟩) ⟨fun a U g mk q => ⟨q.1, q.2.1, kMJ_call q.2.2⟩, fun U hU hW => ⟨rfl, hU, kMJ_kept hM hS hAN hU hW⟩⟩ rfl rfl hl.1 rfl (lv_room (Nat.le_of_ble_eq_true rfl)) dJ4_toString_0e30d_5 ⟨Nat.le_of_ble_eq_true rfl, Nat.le_of_ble_eq_true rfl⟩) hS (fun a _ h => h.elim Or.inl (fun z => Or.inr (z.elim Or.inl (fun y => Or.inr (y.elim (fun x => by rw [x]; exact hqs) (fun x => Nat.le_trans hS.1 x)))))) (fun a h => h.elim Or.inl (fun z => Or.inr (z.elim Or.inl (fun y => Or.inr (y.elim (fun x => by rw [x]; exact hqs) (fun x => Nat.le_trans hS.1 x)))))) (fun H locs hG hz9 hk9 hS9 => ?_)
  obtain ⟨w9, hsz, hP⟩ := hG
  have hws : s.heap.size ≤ w9 := Nat.le_trans hS.1 hsz
  have hqw : q ≠ w9 := fun z => by have h8 := hqlt; omega
  exact W.aret (rt := .object "java/lang/String") hx hb hr9 (Or.inl ⟨_, rfl⟩) (Or.inr ⟨_, rfl⟩) (fun t ht hW => ⟨q, w9, ⟨rfl, hqs, hws, hqw, by rw [ht]; exact hP⟩, hS9.F ht⟩) hS9.2.2 dJ4_toString_0e30d_8 hlocks

