abbrev ww_L_leaf : List Cond := .codeWith yL_leaf cL_leaf 6 (some .int) [(0, 13, 16, 19), (0, 13, 20, 21)] :: gT
set_option maxHeartbeats 4000000 in
set_option maxRecDepth 100000 in
theorem c_L_leaf (l : Launch) (hst : l.stackTraces = false) (dC : Nat → ClassId) (dI : Nat → Nat → Nat) (dA : Nat → ClassId) (k : Nat → Nat) (q : Nat → Nat) (σ : Nat → Nat → Int) (H0 : Heap) (hG : gX dC dI dA q σ H0) (hOK : kOK σ) (hq : kQI q k) (o : Nat) (sn : Int) (sv : Value) (hO : va_P (dC, dI) vwCl [(o, .inr (5, [.long (lZ sn), sv]))] H0) (hko : k 0 ≤ o) (ho9 : ∀ i : Nat, i < 9 → q i ≠ o) (z1 : Int) (yy : Int) (mo : Int) (rz1 : -2147483648 ≤ z1 ∧ z1 < 2147483648) (ryy : -2147483648 ≤ yy ∧ yy < 2147483648) (rmo : -2147483648 ≤ mo ∧ mo < 2147483648) : Met l yL_leaf ww_L_leaf ({ frames := 11, cells := 3, slots := 18, locals := 365 }) (va_Pc [.ref (q 0), .int (iZ z1), .int (iZ yy), .int (iZ mo), .ref o] (fun U => U.heap = H0 ∧ kMJ dC dI dA k U ∧ kL U)) (kQ2 (some (.int (iZ (ex2 (!inb z1 0 3) (!inb yy (-999999999) 999999999 || !inb mo 1 12))))) (fun H => gX dC dI dA q (if ex2 (!inb z1 0 3) (!inb yy (-999999999) 999999999 || !inb mo 1 12) = 0 then (sU (sU σ 0 z1.toNat yy) 1 z1.toNat mo) else σ) H ∧ gO dC dI o (fun n => ex2 (!inb z1 0 3) (!inb yy (-999999999) 999999999 || !inb mo 1 12) = 0 → n = w32 (mlen (leap yy) mo)) H) (kAO q o H0.size)) 3 18 (kAO q o H0.size) := by
  refine k_ofWH (cc := cL_leaf) (maxL := 6) (ret := (some .int)) (hh := [(0, 13, 16, 19), (0, 13, 20, 21)]) (by decide) rfl ?_
  intro p e s m args below meth c s₁ B hml hv
  obtain ⟨rfl, hH, hMJ, hL⟩ := hv
  subst hH
  have hM := hMJ.1
  have hAN : ∀ a, kAO q o s.heap.size a → k 0 ≤ a := kAO_N hq hko hM.2.1.1
  have hS : va_S (kAO q o s.heap.size) s.heap s.heap [] := va_S.rf
  have hno : o < s.heap.size → ¬ kA q s.heap.size o := fun h z => z.elim (fun ⟨i, hi, e9⟩ => ho9 i hi e9.symm) (fun y => absurd h (Nat.not_lt.mpr y))
  obtain ⟨tb, tn, tm, htn, hfit, htm, hPx⟩ := id hG
  have hx := B.exec
  have hb := B.bytes
  have hr := B.returns
  have hts := atoms_spec (ws := ww_L_leaf) B.pre
  have hown : s.vm.findClass RL = some m.cls := findClass_of_methodNamed B.named
  have hlocks := B.notSynchronized
  have hl := lv_entry ([.ref (q 0), .int (iZ z1), .int (iZ yy), .int (iZ mo), .ref o]) (n := 6) (Nat.le_of_ble_eq_true rfl)
  rw [lg_entry_eq]
  generalize (lg_sl ([.ref (q 0), .int (iZ z1), .int (iZ yy), .int (iZ mo), .ref o]) ++ List.replicate (6 - (lg_sl ([.ref (q 0), .int (iZ z1), .int (iZ yy), .int (iZ mo), .ref o])).length) Slot.unset).toArray = ls at hl ⊢
  have hl : lv_has ls 6 [(0, .ref (q 0)), (1, .int (iZ z1)), (2, .int (iZ yy)), (3, .int (iZ mo)), (4, .ref o)] := hl
  have hTab := vx_table (x := yL_leaf) B (hts _ List.mem_cons_self)
  refine lv_aload hx hb dL_leaf_0 (lv_at hl 4 rfl) ?_
  refine lv_aload_n hx hb dL_leaf_2 rfl (lv_at hl 0 rfl) ?_
  refine lv_iload_n hx hb dL_leaf_3 rfl (lv_at hl 1 rfl) ?_
  refine lv_iload_n hx hb dL_leaf_4 rfl (lv_at hl 2 rfl) ?_
  refine lv_iload_n hx hb dL_leaf_5 rfl (lv_at hl 3 rfl) ?_
  refine kcxc (vx_runV (As := [.int (iZ z1), .int (iZ yy), .int (iZ mo)]) (rest := [.ref o]) ⟨hx, hb, hml, hown, hts⟩ (c_X1_leaf l hst dC dI dA k q σ _ hG hOK hq z1 yy mo rz1 ryy rmo) (cwV 3 hts (kg_V mw606 mw607 mw608 mw42 rfl mw609) rfl rfl rfl hdV_X1_leaf ⟨Nat.le_of_ble_eq_true rfl, Nat.le_of_ble_eq_true rfl⟩) ⟨fun a U g mk q => ⟨q.1, q.2.1, kM_call q.2.2⟩, va_recv hM.1 hPx (ci := 4) (q0 := 0) rfl rfl, fun U hU hW => ⟨rfl, hU, kM_kept hM hS hAN hU hW⟩⟩ rfl rfl hl.1 rfl (lv_room (Nat.le_of_ble_eq_true rfl)) dL_leaf_6 ⟨Nat.le_of_ble_eq_true rfl, Nat.le_of_ble_eq_true rfl⟩) hS (fun a _ h => Or.inl h) (fun a h => Or.inl h) (fun E ce q9 H1 locs hE hy9 hk9 hS hce hcv hcl => ?_) (fun H1 locs hG1 hE hy9 hk9 hS => ?_)
  · have hG9 : gX dC dI dA q σ H1 := gX_kept hG (fun i _ h => hk9 _ h)
    have hO8 := hO.kept (H1 := H1) (fun i p hp => hk9 _ (hO i p hp).lt)
    rcases hE with ⟨hE, rfl⟩ | ⟨hE, rfl⟩
    · refine vx_catch (own := RL) (name := "java/lang/IndexOutOfBoundsException") hown [] ⟨0, 13, 16, 19⟩ [⟨0, 13, 20, 21⟩] hTab (fun z h => absurd h List.not_mem_nil) (by decide) (by decide) (hts _ (List.mem_cons_of_mem _ mw604)) (va_Nw.use rfl hL.2.2.1) hce hcv hcl ?_
      refine lv_astore (lv' := [(5, .ref q9), (0, .ref (q 0)), (1, .int (iZ z1)), (2, .int (iZ yy)), (3, .int (iZ mo)), (4, .ref o)]) hx hb dL_leaf_16 hl (by decide) rfl (fun ls hl => ?_)
      refine lv_iconst (v := iZ 1) hx hb dL_leaf_18 rfl ?_
      refine W.widen (k := 3) (n := 18) (Nat.le_of_ble_eq_true rfl) (Nat.le_of_ble_eq_true rfl) ?_
      exact W.iret (v := iZ 1) hx hb hr (fun t ht hW => ⟨⟨congrArg (fun z : Int => Outcome.returned (some (Value.int (iZ z)))) (show 1 = ex2 (!inb z1 0 3) (!inb yy (-999999999) 999999999 || !inb mo 1 12) from hE.symm), by rw [ht]; exact ⟨gX_cast hG9 (if_neg (by rw [hE]; decide)).symm, sn, sv, fun z => absurd z (by rw [hE]; decide), hO8⟩⟩, hS.F ht⟩) hS.2.2 dL_leaf_19 hlocks
    · refine vx_catch (own := RL) (name := "java/lang/IllegalArgumentException") hown [⟨0, 13, 16, 19⟩] ⟨0, 13, 20, 21⟩ [] hTab (fun z h => by cases List.mem_singleton.mp h; exact Or.inr ⟨by decide, "java/lang/IndexOutOfBoundsException", (hts _ (List.mem_cons_of_mem _ mw604)), hM.2.1.2.2.2.2.2.2.2.2.2.2.2⟩) (by decide) (by decide) (hts _ (List.mem_cons_of_mem _ mw605)) (va_Nw.use rfl hL.2.2.2) hce hcv hcl ?_
      refine lv_astore (lv' := [(5, .ref q9), (0, .ref (q 0)), (1, .int (iZ z1)), (2, .int (iZ yy)), (3, .int (iZ mo)), (4, .ref o)]) hx hb dL_leaf_20 hl (by decide) rfl (fun ls hl => ?_)
      refine lv_iconst (v := iZ 2) hx hb dL_leaf_22 rfl ?_
      refine W.widen (k := 3) (n := 18) (Nat.le_of_ble_eq_true rfl) (Nat.le_of_ble_eq_true rfl) ?_
      exact W.iret (v := iZ 2) hx hb hr (fun t ht hW => ⟨⟨congrArg (fun z : Int => Outcome.returned (some (Value.int (iZ z)))) (show 2 = ex2 (!inb z1 0 3) (!inb yy (-999999999) 999999999 || !inb mo 1 12) from hE.symm), by rw [ht]; exact ⟨gX_cast hG9 (if_neg (by rw [hE]; decide)).symm, sn, sv, fun z => absurd z (by rw [hE]; decide), hO8⟩⟩, hS.F ht⟩) hS.2.2 dL_leaf_23 hlocks
  obtain ⟨tb1, tn1, tm1, htn1, hfit1, htm1, hP1⟩ := hG1
  have hPO := hP1.app (hO.kept (H1 := H1) (fun i p hp => hk9 _ (hO i p hp).lt (by match i, hp with | 0, hp => cases hp; exact hno (hO 0 _ rfl).lt | n + 1, hp => cases hp)))
  generalize H1 = H at hPO hS ⊢
  clear hk9 hy9
  refine kz_w32 ?_
  refine kz_i2l hx hb (w32_rng _) dL_leaf_9 ?_
  refine va_putN (D := (dC, dI)) (ci := 5) (v := .long (lZ ((w32 (mlen (leap yy) mo))))) (ty := .long) (C := RX2) (T := TX2) (N := 2) hx hb hts (fun w h => List.mem_cons_of_mem _ (gF_1_in h)) tyX2 tyX2_ok nmX2 hown hM.1 hPO (kXO_D hq ho9) hS 9 rfl rfl 0 (by decide) (va_Nw.use rfl hL.1) (fun _ h9 => h9) rfl (by decide +kernel) rfl rfl (Nat.le_of_ble_eq_true rfl) dL_leaf_10 (fun H locs hPO hD hS => ?_)
  refine lv_goto (tgt := 24) hx hb dL_leaf_13 (by decide) ?_
  refine lv_iconst (v := iZ 0) hx hb dL_leaf_24 rfl ?_
  refine W.widen (k := 3) (n := 18) (Nat.le_of_ble_eq_true rfl) (Nat.le_of_ble_eq_true rfl) ?_
  exact W.iret (v := iZ 0) hx hb hr (fun t ht hW => ⟨⟨congrArg (fun z : Int => Outcome.returned (some (Value.int (iZ z)))) (show 0 = ex2 (!inb z1 0 3) (!inb yy (-999999999) 999999999 || !inb mo 1 12) from hE.symm), by rw [ht]; exact ⟨gX_cast ⟨tb1, tn1, tm1, htn1, hfit1, htm1, va_Pl (a := kX q dA (sU (sU σ 0 z1.toNat yy) 1 z1.toNat mo) tb1 (nI tn1) tm1) hPO⟩ (if_pos hE).symm, _, _, fun _ => rfl, va_Pr (a := kX q dA (sU (sU σ 0 z1.toNat yy) 1 z1.toNat mo) tb1 (nI tn1) tm1) hPO⟩⟩, hS.F ht⟩) hS.2.2 dL_leaf_25 hlocks

abbrev ww_L_leafRound : List Cond := .codeWith yL_leafRound cL_leafRound 6 (some .int) [(0, 13, 16, 19), (0, 13, 20, 21)] :: gT
set_option maxHeartbeats 4000000 in
set_option maxRecDepth 100000 in
theorem c_L_leafRound (l : Launch) (hst : l.stackTraces = false) (dC : Nat → ClassId) (dI : Nat → Nat → Nat) (dA : Nat → ClassId) (k : Nat → Nat) (q : Nat → Nat) (σ : Nat → Nat → Int) (H0 : Heap) (hG : gX dC dI dA q σ H0) (hOK : kOK σ) (hq : kQI q k) (o : Nat) (sn : Int) (sv : Value) (hO : va_P (dC, dI) vwCl [(o, .inr (5, [.long (lZ sn), sv]))] H0) (hko : k 0 ≤ o) (ho9 : ∀ i : Nat, i < 9 → q i ≠ o) (z1 : Int) (yy : Int) (mm : Int) (rz1 : -2147483648 ≤ z1 ∧ z1 < 2147483648) (ryy : -2147483648 ≤ yy ∧ yy < 2147483648) (rmm : -2147483648 ≤ mm ∧ mm < 2147483648) : Met l yL_leafRound ww_L_leafRound ({ frames := 11, cells := 2, slots := 12, locals := 366 }) (va_Pc [.ref (q 0), .int (iZ z1), .int (iZ yy), .int (iZ mm), .ref o] (fun U => U.heap = H0 ∧ kMJ dC dI dA k U ∧ kL U)) (kQ2 (some (.int (iZ (ex2 (!inb z1 0 3) (!inb yy (-999999999) 999999999))))) (fun H => gX dC dI dA q (if ex2 (!inb z1 0 3) (!inb yy (-999999999) 999999999) = 0 then (sU (sU σ 0 z1.toNat yy) 1 z1.toNat (1 + mm % 12)) else σ) H ∧ gO dC dI o (fun n => ex2 (!inb z1 0 3) (!inb yy (-999999999) 999999999) = 0 → n = w32 (1 + mm % 12)) H) (kAO q o H0.size)) 2 12 (kAO q o H0.size) := by
  refine k_ofWH (cc := cL_leafRound) (maxL := 6) (ret := (some .int)) (hh := [(0, 13, 16, 19), (0, 13, 20, 21)]) (by decide) rfl ?_
  intro p e s m args below meth c s₁ B hml hv
  obtain ⟨rfl, hH, hMJ, hL⟩ := hv
  subst hH
  have hM := hMJ.1
  have hAN : ∀ a, kAO q o s.heap.size a → k 0 ≤ a := kAO_N hq hko hM.2.1.1
  have hS : va_S (kAO q o s.heap.size) s.heap s.heap [] := va_S.rf
  have hno : o < s.heap.size → ¬ kA q s.heap.size o := fun h z => z.elim (fun ⟨i, hi, e9⟩ => ho9 i hi e9.symm) (fun y => absurd h (Nat.not_lt.mpr y))
  obtain ⟨tb, tn, tm, htn, hfit, htm, hPx⟩ := id hG
  have hx := B.exec
  have hb := B.bytes
  have hr := B.returns
  have hts := atoms_spec (ws := ww_L_leafRound) B.pre
  have hown : s.vm.findClass RL = some m.cls := findClass_of_methodNamed B.named
  have hlocks := B.notSynchronized
  have hl := lv_entry ([.ref (q 0), .int (iZ z1), .int (iZ yy), .int (iZ mm), .ref o]) (n := 6) (Nat.le_of_ble_eq_true rfl)
  rw [lg_entry_eq]
  generalize (lg_sl ([.ref (q 0), .int (iZ z1), .int (iZ yy), .int (iZ mm), .ref o]) ++ List.replicate (6 - (lg_sl ([.ref (q 0), .int (iZ z1), .int (iZ yy), .int (iZ mm), .ref o])).length) Slot.unset).toArray = ls at hl ⊢
  have hl : lv_has ls 6 [(0, .ref (q 0)), (1, .int (iZ z1)), (2, .int (iZ yy)), (3, .int (iZ mm)), (4, .ref o)] := hl
  have hTab := vx_table (x := yL_leafRound) B (hts _ List.mem_cons_self)
  refine lv_aload hx hb dL_leafRound_0 (lv_at hl 4 rfl) ?_
  refine lv_aload_n hx hb dL_leafRound_2 rfl (lv_at hl 0 rfl) ?_
  refine lv_iload_n hx hb dL_leafRound_3 rfl (lv_at hl 1 rfl) ?_
  refine lv_iload_n hx hb dL_leafRound_4 rfl (lv_at hl 2 rfl) ?_
  refine lv_iload_n hx hb dL_leafRound_5 rfl (lv_at hl 3 rfl) ?_
  refine kcxc (vx_runV (As := [.int (iZ z1), .int (iZ yy), .int (iZ mm)]) (rest := [.ref o]) ⟨hx, hb, hml, hown, hts⟩ (c_X1_leafRound l hst dC dI dA k q σ _ hG hOK hq z1 yy mm rz1 ryy rmm) (cwV 3 hts (kg_V mw623 mw624 mw625 mw42 rfl mw626) rfl rfl rfl hdV_X1_leafRound ⟨Nat.le_of_ble_eq_true rfl, Nat.le_of_ble_eq_true rfl⟩) ⟨fun a U g mk q => ⟨q.1, q.2.1, kM_call q.2.2⟩, va_recv hM.1 hPx (ci := 4) (q0 := 0) rfl rfl, fun U hU hW => ⟨rfl, hU, kM_kept hM hS hAN hU hW⟩⟩ rfl rfl hl.1 rfl (lv_room (Nat.le_of_ble_eq_true rfl)) dL_leafRound_6 ⟨Nat.le_of_ble_eq_true rfl, Nat.le_of_ble_eq_true rfl⟩) hS (fun a _ h => Or.inl h) (fun a h => Or.inl h) (fun E ce q9 H1 locs hE hy9 hk9 hS hce hcv hcl => ?_) (fun H1 locs hG1 hE hy9 hk9 hS => ?_)
  · have hG9 : gX dC dI dA q σ H1 := gX_kept hG (fun i _ h => hk9 _ h)
    have hO8 := hO.kept (H1 := H1) (fun i p hp => hk9 _ (hO i p hp).lt)
    rcases hE with ⟨hE, rfl⟩ | ⟨hE, rfl⟩
    · refine vx_catch (own := RL) (name := "java/lang/IndexOutOfBoundsException") hown [] ⟨0, 13, 16, 19⟩ [⟨0, 13, 20, 21⟩] hTab (fun z h => absurd h List.not_mem_nil) (by decide) (by decide) (hts _ (List.mem_cons_of_mem _ mw604)) (va_Nw.use rfl hL.2.2.1) hce hcv hcl ?_
      refine lv_astore (lv' := [(5, .ref q9), (0, .ref (q 0)), (1, .int (iZ z1)), (2, .int (iZ yy)), (3, .int (iZ mm)), (4, .ref o)]) hx hb dL_leafRound_16 hl (by decide) rfl (fun ls hl => ?_)
      refine lv_iconst (v := iZ 1) hx hb dL_leafRound_18 rfl ?_
      refine W.widen (k := 2) (n := 12) (Nat.le_of_ble_eq_true rfl) (Nat.le_of_ble_eq_true rfl) ?_
      exact W.iret (v := iZ 1) hx hb hr (fun t ht hW => ⟨⟨congrArg (fun z : Int => Outcome.returned (some (Value.int (iZ z)))) (show 1 = ex2 (!inb z1 0 3) (!inb yy (-999999999) 999999999) from hE.symm), by rw [ht]; exact ⟨gX_cast hG9 (if_neg (by rw [hE]; decide)).symm, sn, sv, fun z => absurd z (by rw [hE]; decide), hO8⟩⟩, hS.F ht⟩) hS.2.2 dL_leafRound_19 hlocks
    · refine vx_catch (own := RL) (name := "java/lang/IllegalArgumentException") hown [⟨0, 13, 16, 19⟩] ⟨0, 13, 20, 21⟩ [] hTab (fun z h => by cases List.mem_singleton.mp h; exact Or.inr ⟨by decide, "java/lang/IndexOutOfBoundsException", (hts _ (List.mem_cons_of_mem _ mw604)), hM.2.1.2.2.2.2.2.2.2.2.2.2.2⟩) (by decide) (by decide) (hts _ (List.mem_cons_of_mem _ mw605)) (va_Nw.use rfl hL.2.2.2) hce hcv hcl ?_
      refine lv_astore (lv' := [(5, .ref q9), (0, .ref (q 0)), (1, .int (iZ z1)), (2, .int (iZ yy)), (3, .int (iZ mm)), (4, .ref o)]) hx hb dL_leafRound_20 hl (by decide) rfl (fun ls hl => ?_)
      refine lv_iconst (v := iZ 2) hx hb dL_leafRound_22 rfl ?_
      refine W.widen (k := 2) (n := 12) (Nat.le_of_ble_eq_true rfl) (Nat.le_of_ble_eq_true rfl) ?_
      exact W.iret (v := iZ 2) hx hb hr (fun t ht hW => ⟨⟨congrArg (fun z : Int => Outcome.returned (some (Value.int (iZ z)))) (show 2 = ex2 (!inb z1 0 3) (!inb yy (-999999999) 999999999) from hE.symm), by rw [ht]; exact ⟨gX_cast hG9 (if_neg (by rw [hE]; decide)).symm, sn, sv, fun z => absurd z (by rw [hE]; decide), hO8⟩⟩, hS.F ht⟩) hS.2.2 dL_leafRound_23 hlocks
  obtain ⟨tb1, tn1, tm1, htn1, hfit1, htm1, hP1⟩ := hG1
  have hPO := hP1.app (hO.kept (H1 := H1) (fun i p hp => hk9 _ (hO i p hp).lt (by match i, hp with | 0, hp => cases hp; exact hno (hO 0 _ rfl).lt | n + 1, hp => cases hp)))
  generalize H1 = H at hPO hS ⊢
  clear hk9 hy9
  refine kz_w32 ?_
  refine kz_i2l hx hb (w32_rng _) dL_leafRound_9 ?_
  refine va_putN (D := (dC, dI)) (ci := 5) (v := .long (lZ ((w32 (1 + mm % 12))))) (ty := .long) (C := RX2) (T := TX2) (N := 2) hx hb hts (fun w h => List.mem_cons_of_mem _ (gF_1_in h)) tyX2 tyX2_ok nmX2 hown hM.1 hPO (kXO_D hq ho9) hS 9 rfl rfl 0 (by decide) (va_Nw.use rfl hL.1) (fun _ h9 => h9) rfl (by decide +kernel) rfl rfl (Nat.le_of_ble_eq_true rfl) dL_leafRound_10 (fun H locs hPO hD hS => ?_)
  refine lv_goto (tgt := 24) hx hb dL_leafRound_13 (by decide) ?_
  refine lv_iconst (v := iZ 0) hx hb dL_leafRound_24 rfl ?_
  refine W.widen (k := 2) (n := 12) (Nat.le_of_ble_eq_true rfl) (Nat.le_of_ble_eq_true rfl) ?_
  exact W.iret (v := iZ 0) hx hb hr (fun t ht hW => ⟨⟨congrArg (fun z : Int => Outcome.returned (some (Value.int (iZ z)))) (show 0 = ex2 (!inb z1 0 3) (!inb yy (-999999999) 999999999) from hE.symm), by rw [ht]; exact ⟨gX_cast ⟨tb1, tn1, tm1, htn1, hfit1, htm1, va_Pl (a := kX q dA (sU (sU σ 0 z1.toNat yy) 1 z1.toNat (1 + mm % 12)) tb1 (nI tn1) tm1) hPO⟩ (if_pos hE).symm, _, _, fun _ => rfl, va_Pr (a := kX q dA (sU (sU σ 0 z1.toNat yy) 1 z1.toNat (1 + mm % 12)) tb1 (nI tn1) tm1) hPO⟩⟩, hS.F ht⟩) hS.2.2 dL_leafRound_25 hlocks

abbrev ww_L_months : List Cond := .codeWith yL_months cL_months 6 (some .int) [(0, 13, 16, 19)] :: gT
set_option maxHeartbeats 4000000 in
set_option maxRecDepth 100000 in
theorem c_L_months (l : Launch) (hst : l.stackTraces = false) (dC : Nat → ClassId) (dI : Nat → Nat → Nat) (dA : Nat → ClassId) (k : Nat → Nat) (q : Nat → Nat) (σ : Nat → Nat → Int) (H0 : Heap) (hG : gX dC dI dA q σ H0) (hOK : kOK σ) (hq : kQI q k) (o : Nat) (sn : Int) (sv : Value) (hO : va_P (dC, dI) vwCl [(o, .inr (5, [.long (lZ sn), sv]))] H0) (hko : k 0 ≤ o) (ho9 : ∀ i : Nat, i < 9 → q i ≠ o) (z1 : Int) (mm : Int) (bb : Bool) (rz1 : -2147483648 ≤ z1 ∧ z1 < 2147483648) (rmm : -2147483648 ≤ mm ∧ mm < 2147483648) : Met l yL_months ww_L_months ({ frames := 10, cells := 1, slots := 6, locals := 343 }) (va_Pc [.ref (q 0), .int (iZ z1), .int (iZ mm), .int (iZ (bZ (bb))), .ref o] (fun U => U.heap = H0 ∧ kMJ dC dI dA k U ∧ kL U)) (kQ2 (some (.int (iZ (ex2 (!inb z1 0 3) (false))))) (fun H => gX dC dI dA q (if ex2 (!inb z1 0 3) (false) = 0 then (putLs σ (z1.toNat) (cnt (σ 0 (z1.toNat)) (σ 1 (z1.toNat)) + sgn mm bb)) else σ) H ∧ gO dC dI o (fun n => ex2 (!inb z1 0 3) (false) = 0 → n = w32 (putLr (cnt (σ 0 (z1.toNat)) (σ 1 (z1.toNat)) + sgn mm bb))) H) (kAO q o H0.size)) 1 6 (kAO q o H0.size) := by
  refine k_ofWH (cc := cL_months) (maxL := 6) (ret := (some .int)) (hh := [(0, 13, 16, 19)]) (by decide) rfl ?_
  intro p e s m args below meth c s₁ B hml hv
  obtain ⟨rfl, hH, hMJ, hL⟩ := hv
  subst hH
  have hM := hMJ.1
  have hAN : ∀ a, kAO q o s.heap.size a → k 0 ≤ a := kAO_N hq hko hM.2.1.1
  have hS : va_S (kAO q o s.heap.size) s.heap s.heap [] := va_S.rf
  have hno : o < s.heap.size → ¬ kA q s.heap.size o := fun h z => z.elim (fun ⟨i, hi, e9⟩ => ho9 i hi e9.symm) (fun y => absurd h (Nat.not_lt.mpr y))
  obtain ⟨tb, tn, tm, htn, hfit, htm, hPx⟩ := id hG
  have hx := B.exec
  have hb := B.bytes
  have hr := B.returns
  have hts := atoms_spec (ws := ww_L_months) B.pre
  have hown : s.vm.findClass RL = some m.cls := findClass_of_methodNamed B.named
  have hlocks := B.notSynchronized
  have hl := lv_entry ([.ref (q 0), .int (iZ z1), .int (iZ mm), .int (iZ (bZ (bb))), .ref o]) (n := 6) (Nat.le_of_ble_eq_true rfl)
  rw [lg_entry_eq]
  generalize (lg_sl ([.ref (q 0), .int (iZ z1), .int (iZ mm), .int (iZ (bZ (bb))), .ref o]) ++ List.replicate (6 - (lg_sl ([.ref (q 0), .int (iZ z1), .int (iZ mm), .int (iZ (bZ (bb))), .ref o])).length) Slot.unset).toArray = ls at hl ⊢
  have hl : lv_has ls 6 [(0, .ref (q 0)), (1, .int (iZ z1)), (2, .int (iZ mm)), (3, .int (iZ (bZ (bb)))), (4, .ref o)] := hl
  have hTab := vx_table (x := yL_months) B (hts _ List.mem_cons_self)
  refine lv_aload hx hb dL_months_0 (lv_at hl 4 rfl) ?_
  refine lv_aload_n hx hb dL_months_2 rfl (lv_at hl 0 rfl) ?_
  refine lv_iload_n hx hb dL_months_3 rfl (lv_at hl 1 rfl) ?_
  refine lv_iload_n hx hb dL_months_4 rfl (lv_at hl 2 rfl) ?_
  refine lv_iload_n hx hb dL_months_5 rfl (lv_at hl 3 rfl) ?_
  refine kcxc (vx_runV (As := [.int (iZ z1), .int (iZ mm), .int (iZ (bZ (bb)))]) (rest := [.ref o]) ⟨hx, hb, hml, hown, hts⟩ (c_X1_months l hst dC dI dA k q σ _ hG hOK hq z1 mm bb rz1 rmm) (cwV 3 hts (kg_V mw636 mw637 mw638 mw42 rfl mw639) rfl rfl rfl hdV_X1_months ⟨Nat.le_of_ble_eq_true rfl, Nat.le_of_ble_eq_true rfl⟩) ⟨fun a U g mk q => ⟨q.1, q.2.1, kM_call q.2.2⟩, va_recv hM.1 hPx (ci := 4) (q0 := 0) rfl rfl, fun U hU hW => ⟨rfl, hU, kM_kept hM hS hAN hU hW⟩⟩ rfl rfl hl.1 rfl (lv_room (Nat.le_of_ble_eq_true rfl)) dL_months_6 ⟨Nat.le_of_ble_eq_true rfl, Nat.le_of_ble_eq_true rfl⟩) hS (fun a _ h => Or.inl h) (fun a h => Or.inl h) (fun E ce q9 H1 locs hE hy9 hk9 hS hce hcv hcl => ?_) (fun H1 locs hG1 hE hy9 hk9 hS => ?_)
  · have hG9 : gX dC dI dA q σ H1 := gX_kept hG (fun i _ h => hk9 _ h)
    have hO8 := hO.kept (H1 := H1) (fun i p hp => hk9 _ (hO i p hp).lt)
    rcases hE with ⟨hE, rfl⟩ | ⟨hE, rfl⟩
    · refine vx_catch (own := RL) (name := "java/lang/IndexOutOfBoundsException") hown [] ⟨0, 13, 16, 19⟩ [] hTab (fun z h => absurd h List.not_mem_nil) (by decide) (by decide) (hts _ (List.mem_cons_of_mem _ mw604)) (va_Nw.use rfl hL.2.2.1) hce hcv hcl ?_
      refine lv_astore (lv' := [(5, .ref q9), (0, .ref (q 0)), (1, .int (iZ z1)), (2, .int (iZ mm)), (3, .int (iZ (bZ (bb)))), (4, .ref o)]) hx hb dL_months_16 hl (by decide) rfl (fun ls hl => ?_)
      refine lv_iconst (v := iZ 1) hx hb dL_months_18 rfl ?_
      refine W.widen (k := 1) (n := 6) (Nat.le_of_ble_eq_true rfl) (Nat.le_of_ble_eq_true rfl) ?_
      exact W.iret (v := iZ 1) hx hb hr (fun t ht hW => ⟨⟨congrArg (fun z : Int => Outcome.returned (some (Value.int (iZ z)))) (show 1 = ex2 (!inb z1 0 3) (false) from hE.symm), by rw [ht]; exact ⟨gX_cast hG9 (if_neg (by rw [hE]; decide)).symm, sn, sv, fun z => absurd z (by rw [hE]; decide), hO8⟩⟩, hS.F ht⟩) hS.2.2 dL_months_19 hlocks
    · exact absurd hE ex2_no2
  obtain ⟨tb1, tn1, tm1, htn1, hfit1, htm1, hP1⟩ := hG1
  have hPO := hP1.app (hO.kept (H1 := H1) (fun i p hp => hk9 _ (hO i p hp).lt (by match i, hp with | 0, hp => cases hp; exact hno (hO 0 _ rfl).lt | n + 1, hp => cases hp)))
  generalize H1 = H at hPO hS ⊢
  clear hk9 hy9
  refine kz_w32 ?_
  refine kz_i2l hx hb (w32_rng _) dL_months_9 ?_
  refine va_putN (D := (dC, dI)) (ci := 5) (v := .long (lZ ((w32 (putLr (cnt (σ 0 (z1.toNat)) (σ 1 (z1.toNat)) + sgn mm bb)))))) (ty := .long) (C := RX2) (T := TX2) (N := 2) hx hb hts (fun w h => List.mem_cons_of_mem _ (gF_1_in h)) tyX2 tyX2_ok nmX2 hown hM.1 hPO (kXO_D hq ho9) hS 9 rfl rfl 0 (by decide) (va_Nw.use rfl hL.1) (fun _ h9 => h9) rfl (by decide +kernel) rfl rfl (Nat.le_of_ble_eq_true rfl) dL_months_10 (fun H locs hPO hD hS => ?_)
  refine lv_goto (tgt := 20) hx hb dL_months_13 (by decide) ?_
  refine lv_iconst (v := iZ 0) hx hb dL_months_20 rfl ?_
  refine W.widen (k := 1) (n := 6) (Nat.le_of_ble_eq_true rfl) (Nat.le_of_ble_eq_true rfl) ?_
  exact W.iret (v := iZ 0) hx hb hr (fun t ht hW => ⟨⟨congrArg (fun z : Int => Outcome.returned (some (Value.int (iZ z)))) (show 0 = ex2 (!inb z1 0 3) (false) from hE.symm), by rw [ht]; exact ⟨gX_cast ⟨tb1, tn1, tm1, htn1, hfit1, htm1, va_Pl (a := kX q dA (putLs σ (z1.toNat) (cnt (σ 0 (z1.toNat)) (σ 1 (z1.toNat)) + sgn mm bb)) tb1 (nI tn1) tm1) hPO⟩ (if_pos hE).symm, _, _, fun _ => rfl, va_Pr (a := kX q dA (putLs σ (z1.toNat) (cnt (σ 0 (z1.toNat)) (σ 1 (z1.toNat)) + sgn mm bb)) tb1 (nI tn1) tm1) hPO⟩⟩, hS.F ht⟩) hS.2.2 dL_months_21 hlocks

abbrev ww_L_years : List Cond := .codeWith yL_years cL_years 6 (some .int) [(0, 13, 16, 19)] :: gT
set_option maxHeartbeats 4000000 in
set_option maxRecDepth 100000 in
theorem c_L_years (l : Launch) (hst : l.stackTraces = false) (dC : Nat → ClassId) (dI : Nat → Nat → Nat) (dA : Nat → ClassId) (k : Nat → Nat) (q : Nat → Nat) (σ : Nat → Nat → Int) (H0 : Heap) (hG : gX dC dI dA q σ H0) (hOK : kOK σ) (hq : kQI q k) (o : Nat) (sn : Int) (sv : Value) (hO : va_P (dC, dI) vwCl [(o, .inr (5, [.long (lZ sn), sv]))] H0) (hko : k 0 ≤ o) (ho9 : ∀ i : Nat, i < 9 → q i ≠ o) (z1 : Int) (mm : Int) (bb : Bool) (rz1 : -2147483648 ≤ z1 ∧ z1 < 2147483648) (rmm : -2147483648 ≤ mm ∧ mm < 2147483648) : Met l yL_years ww_L_years ({ frames := 10, cells := 1, slots := 6, locals := 343 }) (va_Pc [.ref (q 0), .int (iZ z1), .int (iZ mm), .int (iZ (bZ (bb))), .ref o] (fun U => U.heap = H0 ∧ kMJ dC dI dA k U ∧ kL U)) (kQ2 (some (.int (iZ (ex2 (!inb z1 0 3) (false))))) (fun H => gX dC dI dA q (if ex2 (!inb z1 0 3) (false) = 0 then (putLs σ (z1.toNat) (cnt (σ 0 (z1.toNat)) (σ 1 (z1.toNat)) + sgn (12 * mm) bb)) else σ) H ∧ gO dC dI o (fun n => ex2 (!inb z1 0 3) (false) = 0 → n = w32 (putLr (cnt (σ 0 (z1.toNat)) (σ 1 (z1.toNat)) + sgn (12 * mm) bb))) H) (kAO q o H0.size)) 1 6 (kAO q o H0.size) := by
  refine k_ofWH (cc := cL_years) (maxL := 6) (ret := (some .int)) (hh := [(0, 13, 16, 19)]) (by decide) rfl ?_
  intro p e s m args below meth c s₁ B hml hv
  obtain ⟨rfl, hH, hMJ, hL⟩ := hv
  subst hH
  have hM := hMJ.1
  have hAN : ∀ a, kAO q o s.heap.size a → k 0 ≤ a := kAO_N hq hko hM.2.1.1
  have hS : va_S (kAO q o s.heap.size) s.heap s.heap [] := va_S.rf
  have hno : o < s.heap.size → ¬ kA q s.heap.size o := fun h z => z.elim (fun ⟨i, hi, e9⟩ => ho9 i hi e9.symm) (fun y => absurd h (Nat.not_lt.mpr y))
  obtain ⟨tb, tn, tm, htn, hfit, htm, hPx⟩ := id hG
  have hx := B.exec
  have hb := B.bytes
  have hr := B.returns
  have hts := atoms_spec (ws := ww_L_years) B.pre
  have hown : s.vm.findClass RL = some m.cls := findClass_of_methodNamed B.named
  have hlocks := B.notSynchronized
  have hl := lv_entry ([.ref (q 0), .int (iZ z1), .int (iZ mm), .int (iZ (bZ (bb))), .ref o]) (n := 6) (Nat.le_of_ble_eq_true rfl)
  rw [lg_entry_eq]
  generalize (lg_sl ([.ref (q 0), .int (iZ z1), .int (iZ mm), .int (iZ (bZ (bb))), .ref o]) ++ List.replicate (6 - (lg_sl ([.ref (q 0), .int (iZ z1), .int (iZ mm), .int (iZ (bZ (bb))), .ref o])).length) Slot.unset).toArray = ls at hl ⊢
  have hl : lv_has ls 6 [(0, .ref (q 0)), (1, .int (iZ z1)), (2, .int (iZ mm)), (3, .int (iZ (bZ (bb)))), (4, .ref o)] := hl
  have hTab := vx_table (x := yL_years) B (hts _ List.mem_cons_self)
  refine lv_aload hx hb dL_years_0 (lv_at hl 4 rfl) ?_
  refine lv_aload_n hx hb dL_years_2 rfl (lv_at hl 0 rfl) ?_
  refine lv_iload_n hx hb dL_years_3 rfl (lv_at hl 1 rfl) ?_
  refine lv_iload_n hx hb dL_years_4 rfl (lv_at hl 2 rfl) ?_
  refine lv_iload_n hx hb dL_years_5 rfl (lv_at hl 3 rfl) ?_
  refine kcxc (vx_runV (As := [.int (iZ z1), .int (iZ mm), .int (iZ (bZ (bb)))]) (rest := [.ref o]) ⟨hx, hb, hml, hown, hts⟩ (c_X1_years l hst dC dI dA k q σ _ hG hOK hq z1 mm bb rz1 rmm) (cwV 3 hts (kg_V mw646 mw647 mw648 mw42 rfl mw649) rfl rfl rfl hdV_X1_years ⟨Nat.le_of_ble_eq_true rfl, Nat.le_of_ble_eq_true rfl⟩) ⟨fun a U g mk q => ⟨q.1, q.2.1, kM_call q.2.2⟩, va_recv hM.1 hPx (ci := 4) (q0 := 0) rfl rfl, fun U hU hW => ⟨rfl, hU, kM_kept hM hS hAN hU hW⟩⟩ rfl rfl hl.1 rfl (lv_room (Nat.le_of_ble_eq_true rfl)) dL_years_6 ⟨Nat.le_of_ble_eq_true rfl, Nat.le_of_ble_eq_true rfl⟩) hS (fun a _ h => Or.inl h) (fun a h => Or.inl h) (fun E ce q9 H1 locs hE hy9 hk9 hS hce hcv hcl => ?_) (fun H1 locs hG1 hE hy9 hk9 hS => ?_)
  · have hG9 : gX dC dI dA q σ H1 := gX_kept hG (fun i _ h => hk9 _ h)
    have hO8 := hO.kept (H1 := H1) (fun i p hp => hk9 _ (hO i p hp).lt)
    rcases hE with ⟨hE, rfl⟩ | ⟨hE, rfl⟩
    · refine vx_catch (own := RL) (name := "java/lang/IndexOutOfBoundsException") hown [] ⟨0, 13, 16, 19⟩ [] hTab (fun z h => absurd h List.not_mem_nil) (by decide) (by decide) (hts _ (List.mem_cons_of_mem _ mw604)) (va_Nw.use rfl hL.2.2.1) hce hcv hcl ?_
      refine lv_astore (lv' := [(5, .ref q9), (0, .ref (q 0)), (1, .int (iZ z1)), (2, .int (iZ mm)), (3, .int (iZ (bZ (bb)))), (4, .ref o)]) hx hb dL_years_16 hl (by decide) rfl (fun ls hl => ?_)
      refine lv_iconst (v := iZ 1) hx hb dL_years_18 rfl ?_
      refine W.widen (k := 1) (n := 6) (Nat.le_of_ble_eq_true rfl) (Nat.le_of_ble_eq_true rfl) ?_
      exact W.iret (v := iZ 1) hx hb hr (fun t ht hW => ⟨⟨congrArg (fun z : Int => Outcome.returned (some (Value.int (iZ z)))) (show 1 = ex2 (!inb z1 0 3) (false) from hE.symm), by rw [ht]; exact ⟨gX_cast hG9 (if_neg (by rw [hE]; decide)).symm, sn, sv, fun z => absurd z (by rw [hE]; decide), hO8⟩⟩, hS.F ht⟩) hS.2.2 dL_years_19 hlocks
    · exact absurd hE ex2_no2
  obtain ⟨tb1, tn1, tm1, htn1, hfit1, htm1, hP1⟩ := hG1
  have hPO := hP1.app (hO.kept (H1 := H1) (fun i p hp => hk9 _ (hO i p hp).lt (by match i, hp with | 0, hp => cases hp; exact hno (hO 0 _ rfl).lt | n + 1, hp => cases hp)))
  generalize H1 = H at hPO hS ⊢
  clear hk9 hy9
  refine kz_w32 ?_
  refine kz_i2l hx hb (w32_rng _) dL_years_9 ?_
  refine va_putN (D := (dC, dI)) (ci := 5) (v := .long (lZ ((w32 (putLr (cnt (σ 0 (z1.toNat)) (σ 1 (z1.toNat)) + sgn (12 * mm) bb)))))) (ty := .long) (C := RX2) (T := TX2) (N := 2) hx hb hts (fun w h => List.mem_cons_of_mem _ (gF_1_in h)) tyX2 tyX2_ok nmX2 hown hM.1 hPO (kXO_D hq ho9) hS 9 rfl rfl 0 (by decide) (va_Nw.use rfl hL.1) (fun _ h9 => h9) rfl (by decide +kernel) rfl rfl (Nat.le_of_ble_eq_true rfl) dL_years_10 (fun H locs hPO hD hS => ?_)
  refine lv_goto (tgt := 20) hx hb dL_years_13 (by decide) ?_
  refine lv_iconst (v := iZ 0) hx hb dL_years_20 rfl ?_
  refine W.widen (k := 1) (n := 6) (Nat.le_of_ble_eq_true rfl) (Nat.le_of_ble_eq_true rfl) ?_
  exact W.iret (v := iZ 0) hx hb hr (fun t ht hW => ⟨⟨congrArg (fun z : Int => Outcome.returned (some (Value.int (iZ z)))) (show 0 = ex2 (!inb z1 0 3) (false) from hE.symm), by rw [ht]; exact ⟨gX_cast ⟨tb1, tn1, tm1, htn1, hfit1, htm1, va_Pl (a := kX q dA (putLs σ (z1.toNat) (cnt (σ 0 (z1.toNat)) (σ 1 (z1.toNat)) + sgn (12 * mm) bb)) tb1 (nI tn1) tm1) hPO⟩ (if_pos hE).symm, _, _, fun _ => rfl, va_Pr (a := kX q dA (putLs σ (z1.toNat) (cnt (σ 0 (z1.toNat)) (σ 1 (z1.toNat)) + sgn (12 * mm) bb)) tb1 (nI tn1) tm1) hPO⟩⟩, hS.F ht⟩) hS.2.2 dL_years_21 hlocks

abbrev ww_L_units : List Cond := .codeWith yL_units cL_units 7 (some .int) [(0, 15, 18, 19), (0, 15, 22, 21)] :: gT
set_option maxHeartbeats 4000000 in
set_option maxRecDepth 100000 in
theorem c_L_units (l : Launch) (hst : l.stackTraces = false) (dC : Nat → ClassId) (dI : Nat → Nat → Nat) (dA : Nat → ClassId) (k : Nat → Nat) (q : Nat → Nat) (σ : Nat → Nat → Int) (H0 : Heap) (hG : gX dC dI dA q σ H0) (hOK : kOK σ) (hq : kQI q k) (o : Nat) (sn : Int) (sv : Value) (hO : va_P (dC, dI) vwCl [(o, .inr (5, [.long (lZ sn), sv]))] H0) (hko : k 0 ≤ o) (ho9 : ∀ i : Nat, i < 9 → q i ≠ o) (z1 : Int) (uu : Int) (mm : Int) (bb : Bool) (rz1 : -2147483648 ≤ z1 ∧ z1 < 2147483648) (ruu : -2147483648 ≤ uu ∧ uu < 2147483648) (rmm : -2147483648 ≤ mm ∧ mm < 2147483648) : Met l yL_units ww_L_units ({ frames := 10, cells := 2, slots := 12, locals := 346 }) (va_Pc [.ref (q 0), .int (iZ z1), .int (iZ uu), .int (iZ mm), .int (iZ (bZ (bb))), .ref o] (fun U => U.heap = H0 ∧ kMJ dC dI dA k U ∧ kL U)) (kQ2 (some (.int (iZ (ex2 (!inb z1 0 3) (!inb uu 0 4))))) (fun H => gX dC dI dA q (if ex2 (!inb z1 0 3) (!inb uu 0 4) = 0 then (putLs σ (z1.toNat) (cnt (σ 0 (z1.toNat)) (σ 1 (z1.toNat)) + sgn (mm * usize uu) bb)) else σ) H ∧ gO dC dI o (fun n => ex2 (!inb z1 0 3) (!inb uu 0 4) = 0 → n = w32 (putLr (cnt (σ 0 (z1.toNat)) (σ 1 (z1.toNat)) + sgn (mm * usize uu) bb))) H) (kAO q o H0.size)) 2 12 (kAO q o H0.size) := by
  refine k_ofWH (cc := cL_units) (maxL := 7) (ret := (some .int)) (hh := [(0, 15, 18, 19), (0, 15, 22, 21)]) (by decide) rfl ?_
  intro p e s m args below meth c s₁ B hml hv
  obtain ⟨rfl, hH, hMJ, hL⟩ := hv
  subst hH
  have hM := hMJ.1
  have hAN : ∀ a, kAO q o s.heap.size a → k 0 ≤ a := kAO_N hq hko hM.2.1.1
  have hS : va_S (kAO q o s.heap.size) s.heap s.heap [] := va_S.rf
  have hno : o < s.heap.size → ¬ kA q s.heap.size o := fun h z => z.elim (fun ⟨i, hi, e9⟩ => ho9 i hi e9.symm) (fun y => absurd h (Nat.not_lt.mpr y))
  obtain ⟨tb, tn, tm, htn, hfit, htm, hPx⟩ := id hG
  have hx := B.exec
  have hb := B.bytes
  have hr := B.returns
  have hts := atoms_spec (ws := ww_L_units) B.pre
  have hown : s.vm.findClass RL = some m.cls := findClass_of_methodNamed B.named
  have hlocks := B.notSynchronized
  have hl := lv_entry ([.ref (q 0), .int (iZ z1), .int (iZ uu), .int (iZ mm), .int (iZ (bZ (bb))), .ref o]) (n := 7) (Nat.le_of_ble_eq_true rfl)
  rw [lg_entry_eq]
  generalize (lg_sl ([.ref (q 0), .int (iZ z1), .int (iZ uu), .int (iZ mm), .int (iZ (bZ (bb))), .ref o]) ++ List.replicate (7 - (lg_sl ([.ref (q 0), .int (iZ z1), .int (iZ uu), .int (iZ mm), .int (iZ (bZ (bb))), .ref o])).length) Slot.unset).toArray = ls at hl ⊢
  have hl : lv_has ls 7 [(0, .ref (q 0)), (1, .int (iZ z1)), (2, .int (iZ uu)), (3, .int (iZ mm)), (4, .int (iZ (bZ (bb)))), (5, .ref o)] := hl
  have hTab := vx_table (x := yL_units) B (hts _ List.mem_cons_self)
  refine lv_aload hx hb dL_units_0 (lv_at hl 5 rfl) ?_
  refine lv_aload_n hx hb dL_units_2 rfl (lv_at hl 0 rfl) ?_
  refine lv_iload_n hx hb dL_units_3 rfl (lv_at hl 1 rfl) ?_
  refine lv_iload_n hx hb dL_units_4 rfl (lv_at hl 2 rfl) ?_
  refine lv_iload_n hx hb dL_units_5 rfl (lv_at hl 3 rfl) ?_
  refine lv_iload hx hb dL_units_6 (lv_at hl 4 rfl) ?_
  refine kcxc (vx_runV (As := [.int (iZ z1), .int (iZ uu), .int (iZ mm), .int (iZ (bZ (bb)))]) (rest := [.ref o]) ⟨hx, hb, hml, hown, hts⟩ (c_X1_units l hst dC dI dA k q σ _ hG hOK hq z1 uu mm bb rz1 ruu rmm) (cwV 4 hts (kg_V mw656 mw657 mw658 mw42 rfl mw659) rfl rfl rfl hdV_X1_units ⟨Nat.le_of_ble_eq_true rfl, Nat.le_of_ble_eq_true rfl⟩) ⟨fun a U g mk q => ⟨q.1, q.2.1, kM_call q.2.2⟩, va_recv hM.1 hPx (ci := 4) (q0 := 0) rfl rfl, fun U hU hW => ⟨rfl, hU, kM_kept hM hS hAN hU hW⟩⟩ rfl rfl hl.1 rfl (lv_room (Nat.le_of_ble_eq_true rfl)) dL_units_8 ⟨Nat.le_of_ble_eq_true rfl, Nat.le_of_ble_eq_true rfl⟩) hS (fun a _ h => Or.inl h) (fun a h => Or.inl h) (fun E ce q9 H1 locs hE hy9 hk9 hS hce hcv hcl => ?_) (fun H1 locs hG1 hE hy9 hk9 hS => ?_)
  · have hG9 : gX dC dI dA q σ H1 := gX_kept hG (fun i _ h => hk9 _ h)
    have hO8 := hO.kept (H1 := H1) (fun i p hp => hk9 _ (hO i p hp).lt)
    rcases hE with ⟨hE, rfl⟩ | ⟨hE, rfl⟩
    · refine vx_catch (own := RL) (name := "java/lang/IndexOutOfBoundsException") hown [] ⟨0, 15, 18, 19⟩ [⟨0, 15, 22, 21⟩] hTab (fun z h => absurd h List.not_mem_nil) (by decide) (by decide) (hts _ (List.mem_cons_of_mem _ mw604)) (va_Nw.use rfl hL.2.2.1) hce hcv hcl ?_
      refine lv_astore (lv' := [(6, .ref q9), (0, .ref (q 0)), (1, .int (iZ z1)), (2, .int (iZ uu)), (3, .int (iZ mm)), (4, .int (iZ (bZ (bb)))), (5, .ref o)]) hx hb dL_units_18 hl (by decide) rfl (fun ls hl => ?_)
      refine lv_iconst (v := iZ 1) hx hb dL_units_20 rfl ?_
      refine W.widen (k := 2) (n := 12) (Nat.le_of_ble_eq_true rfl) (Nat.le_of_ble_eq_true rfl) ?_
      exact W.iret (v := iZ 1) hx hb hr (fun t ht hW => ⟨⟨congrArg (fun z : Int => Outcome.returned (some (Value.int (iZ z)))) (show 1 = ex2 (!inb z1 0 3) (!inb uu 0 4) from hE.symm), by rw [ht]; exact ⟨gX_cast hG9 (if_neg (by rw [hE]; decide)).symm, sn, sv, fun z => absurd z (by rw [hE]; decide), hO8⟩⟩, hS.F ht⟩) hS.2.2 dL_units_21 hlocks
    · refine vx_catch (own := RL) (name := "java/lang/IllegalArgumentException") hown [⟨0, 15, 18, 19⟩] ⟨0, 15, 22, 21⟩ [] hTab (fun z h => by cases List.mem_singleton.mp h; exact Or.inr ⟨by decide, "java/lang/IndexOutOfBoundsException", (hts _ (List.mem_cons_of_mem _ mw604)), hM.2.1.2.2.2.2.2.2.2.2.2.2.2⟩) (by decide) (by decide) (hts _ (List.mem_cons_of_mem _ mw605)) (va_Nw.use rfl hL.2.2.2) hce hcv hcl ?_
      refine lv_astore (lv' := [(6, .ref q9), (0, .ref (q 0)), (1, .int (iZ z1)), (2, .int (iZ uu)), (3, .int (iZ mm)), (4, .int (iZ (bZ (bb)))), (5, .ref o)]) hx hb dL_units_22 hl (by decide) rfl (fun ls hl => ?_)
      refine lv_iconst (v := iZ 2) hx hb dL_units_24 rfl ?_
      refine W.widen (k := 2) (n := 12) (Nat.le_of_ble_eq_true rfl) (Nat.le_of_ble_eq_true rfl) ?_
      exact W.iret (v := iZ 2) hx hb hr (fun t ht hW => ⟨⟨congrArg (fun z : Int => Outcome.returned (some (Value.int (iZ z)))) (show 2 = ex2 (!inb z1 0 3) (!inb uu 0 4) from hE.symm), by rw [ht]; exact ⟨gX_cast hG9 (if_neg (by rw [hE]; decide)).symm, sn, sv, fun z => absurd z (by rw [hE]; decide), hO8⟩⟩, hS.F ht⟩) hS.2.2 dL_units_25 hlocks
  obtain ⟨tb1, tn1, tm1, htn1, hfit1, htm1, hP1⟩ := hG1
  have hPO := hP1.app (hO.kept (H1 := H1) (fun i p hp => hk9 _ (hO i p hp).lt (by match i, hp with | 0, hp => cases hp; exact hno (hO 0 _ rfl).lt | n + 1, hp => cases hp)))
  generalize H1 = H at hPO hS ⊢
  clear hk9 hy9
  refine kz_w32 ?_
  refine kz_i2l hx hb (w32_rng _) dL_units_11 ?_
  refine va_putN (D := (dC, dI)) (ci := 5) (v := .long (lZ ((w32 (putLr (cnt (σ 0 (z1.toNat)) (σ 1 (z1.toNat)) + sgn (mm * usize uu) bb)))))) (ty := .long) (C := RX2) (T := TX2) (N := 2) hx hb hts (fun w h => List.mem_cons_of_mem _ (gF_1_in h)) tyX2 tyX2_ok nmX2 hown hM.1 hPO (kXO_D hq ho9) hS 9 rfl rfl 0 (by decide) (va_Nw.use rfl hL.1) (fun _ h9 => h9) rfl (by decide +kernel) rfl rfl (Nat.le_of_ble_eq_true rfl) dL_units_12 (fun H locs hPO hD hS => ?_)
  refine lv_goto (tgt := 26) hx hb dL_units_15 (by decide) ?_
  refine lv_iconst (v := iZ 0) hx hb dL_units_26 rfl ?_
  refine W.widen (k := 2) (n := 12) (Nat.le_of_ble_eq_true rfl) (Nat.le_of_ble_eq_true rfl) ?_
  exact W.iret (v := iZ 0) hx hb hr (fun t ht hW => ⟨⟨congrArg (fun z : Int => Outcome.returned (some (Value.int (iZ z)))) (show 0 = ex2 (!inb z1 0 3) (!inb uu 0 4) from hE.symm), by rw [ht]; exact ⟨gX_cast ⟨tb1, tn1, tm1, htn1, hfit1, htm1, va_Pl (a := kX q dA (putLs σ (z1.toNat) (cnt (σ 0 (z1.toNat)) (σ 1 (z1.toNat)) + sgn (mm * usize uu) bb)) tb1 (nI tn1) tm1) hPO⟩ (if_pos hE).symm, _, _, fun _ => rfl, va_Pr (a := kX q dA (putLs σ (z1.toNat) (cnt (σ 0 (z1.toNat)) (σ 1 (z1.toNat)) + sgn (mm * usize uu) bb)) tb1 (nI tn1) tm1) hPO⟩⟩, hS.F ht⟩) hS.2.2 dL_units_27 hlocks

abbrev ww_L_both : List Cond := .codeWith yL_both cL_both 7 (some .int) [(0, 15, 18, 19), (0, 15, 22, 21)] :: gT
set_option maxHeartbeats 4000000 in
set_option maxRecDepth 100000 in
theorem c_L_both (l : Launch) (hst : l.stackTraces = false) (dC : Nat → ClassId) (dI : Nat → Nat → Nat) (dA : Nat → ClassId) (k : Nat → Nat) (q : Nat → Nat) (σ : Nat → Nat → Int) (H0 : Heap) (hG : gX dC dI dA q σ H0) (hOK : kOK σ) (hq : kQI q k) (o : Nat) (sn : Int) (sv : Value) (hO : va_P (dC, dI) vwCl [(o, .inr (5, [.long (lZ sn), sv]))] H0) (hko : k 0 ≤ o) (ho9 : ∀ i : Nat, i < 9 → q i ≠ o) (z1 : Int) (yy : Int) (mm : Int) (bb : Bool) (rz1 : -2147483648 ≤ z1 ∧ z1 < 2147483648) (ryy : -2147483648 ≤ yy ∧ yy < 2147483648) (rmm : -2147483648 ≤ mm ∧ mm < 2147483648) : Met l yL_both ww_L_both ({ frames := 10, cells := 3, slots := 18, locals := 346 }) (va_Pc [.ref (q 0), .int (iZ z1), .int (iZ yy), .int (iZ mm), .int (iZ (bZ (bb))), .ref o] (fun U => U.heap = H0 ∧ kMJ dC dI dA k U ∧ kL U)) (kQ2 (some (.int (iZ (ex2 (!inb z1 0 3) (!inb yy (-99999999) 99999999 || !inb mm (-99999999) 99999999))))) (fun H => gX dC dI dA q (if ex2 (!inb z1 0 3) (!inb yy (-99999999) 99999999 || !inb mm (-99999999) 99999999) = 0 then (putLs σ (z1.toNat) (cnt (σ 0 (z1.toNat)) (σ 1 (z1.toNat)) + sgn (12 * yy + mm) bb)) else σ) H ∧ gO dC dI o (fun n => ex2 (!inb z1 0 3) (!inb yy (-99999999) 99999999 || !inb mm (-99999999) 99999999) = 0 → n = w32 (putLr (cnt (σ 0 (z1.toNat)) (σ 1 (z1.toNat)) + sgn (12 * yy + mm) bb))) H) (kAO q o H0.size)) 3 18 (kAO q o H0.size) := by
  refine k_ofWH (cc := cL_both) (maxL := 7) (ret := (some .int)) (hh := [(0, 15, 18, 19), (0, 15, 22, 21)]) (by decide) rfl ?_
  intro p e s m args below meth c s₁ B hml hv
  obtain ⟨rfl, hH, hMJ, hL⟩ := hv
  subst hH
  have hM := hMJ.1
  have hAN : ∀ a, kAO q o s.heap.size a → k 0 ≤ a := kAO_N hq hko hM.2.1.1
  have hS : va_S (kAO q o s.heap.size) s.heap s.heap [] := va_S.rf
  have hno : o < s.heap.size → ¬ kA q s.heap.size o := fun h z => z.elim (fun ⟨i, hi, e9⟩ => ho9 i hi e9.symm) (fun y => absurd h (Nat.not_lt.mpr y))
  obtain ⟨tb, tn, tm, htn, hfit, htm, hPx⟩ := id hG
  have hx := B.exec
  have hb := B.bytes
  have hr := B.returns
  have hts := atoms_spec (ws := ww_L_both) B.pre
  have hown : s.vm.findClass RL = some m.cls := findClass_of_methodNamed B.named
  have hlocks := B.notSynchronized
  have hl := lv_entry ([.ref (q 0), .int (iZ z1), .int (iZ yy), .int (iZ mm), .int (iZ (bZ (bb))), .ref o]) (n := 7) (Nat.le_of_ble_eq_true rfl)
  rw [lg_entry_eq]
  generalize (lg_sl ([.ref (q 0), .int (iZ z1), .int (iZ yy), .int (iZ mm), .int (iZ (bZ (bb))), .ref o]) ++ List.replicate (7 - (lg_sl ([.ref (q 0), .int (iZ z1), .int (iZ yy), .int (iZ mm), .int (iZ (bZ (bb))), .ref o])).length) Slot.unset).toArray = ls at hl ⊢
  have hl : lv_has ls 7 [(0, .ref (q 0)), (1, .int (iZ z1)), (2, .int (iZ yy)), (3, .int (iZ mm)), (4, .int (iZ (bZ (bb)))), (5, .ref o)] := hl
  have hTab := vx_table (x := yL_both) B (hts _ List.mem_cons_self)
  refine lv_aload hx hb dL_both_0 (lv_at hl 5 rfl) ?_
  refine lv_aload_n hx hb dL_both_2 rfl (lv_at hl 0 rfl) ?_
  refine lv_iload_n hx hb dL_both_3 rfl (lv_at hl 1 rfl) ?_
  refine lv_iload_n hx hb dL_both_4 rfl (lv_at hl 2 rfl) ?_
  refine lv_iload_n hx hb dL_both_5 rfl (lv_at hl 3 rfl) ?_
  refine lv_iload hx hb dL_both_6 (lv_at hl 4 rfl) ?_
  refine kcxc (vx_runV (As := [.int (iZ z1), .int (iZ yy), .int (iZ mm), .int (iZ (bZ (bb)))]) (rest := [.ref o]) ⟨hx, hb, hml, hown, hts⟩ (c_X1_both l hst dC dI dA k q σ _ hG hOK hq z1 yy mm bb rz1 ryy rmm) (cwV 4 hts (kg_V mw663 mw664 mw665 mw42 rfl mw666) rfl rfl rfl hdV_X1_both ⟨Nat.le_of_ble_eq_true rfl, Nat.le_of_ble_eq_true rfl⟩) ⟨fun a U g mk q => ⟨q.1, q.2.1, kM_call q.2.2⟩, va_recv hM.1 hPx (ci := 4) (q0 := 0) rfl rfl, fun U hU hW => ⟨rfl, hU, kM_kept hM hS hAN hU hW⟩⟩ rfl rfl hl.1 rfl (lv_room (Nat.le_of_ble_eq_true rfl)) dL_both_8 ⟨Nat.le_of_ble_eq_true rfl, Nat.le_of_ble_eq_true rfl⟩) hS (fun a _ h => Or.inl h) (fun a h => Or.inl h) (fun E ce q9 H1 locs hE hy9 hk9 hS hce hcv hcl => ?_) (fun H1 locs hG1 hE hy9 hk9 hS => ?_)
  · have hG9 : gX dC dI dA q σ H1 := gX_kept hG (fun i _ h => hk9 _ h)
    have hO8 := hO.kept (H1 := H1) (fun i p hp => hk9 _ (hO i p hp).lt)
    rcases hE with ⟨hE, rfl⟩ | ⟨hE, rfl⟩
    · refine vx_catch (own := RL) (name := "java/lang/IndexOutOfBoundsException") hown [] ⟨0, 15, 18, 19⟩ [⟨0, 15, 22, 21⟩] hTab (fun z h => absurd h List.not_mem_nil) (by decide) (by decide) (hts _ (List.mem_cons_of_mem _ mw604)) (va_Nw.use rfl hL.2.2.1) hce hcv hcl ?_
      refine lv_astore (lv' := [(6, .ref q9), (0, .ref (q 0)), (1, .int (iZ z1)), (2, .int (iZ yy)), (3, .int (iZ mm)), (4, .int (iZ (bZ (bb)))), (5, .ref o)]) hx hb dL_both_18 hl (by decide) rfl (fun ls hl => ?_)
      refine lv_iconst (v := iZ 1) hx hb dL_both_20 rfl ?_
      refine W.widen (k := 3) (n := 18) (Nat.le_of_ble_eq_true rfl) (Nat.le_of_ble_eq_true rfl) ?_
      exact W.iret (v := iZ 1) hx hb hr (fun t ht hW => ⟨⟨congrArg (fun z : Int => Outcome.returned (some (Value.int (iZ z)))) (show 1 = ex2 (!inb z1 0 3) (!inb yy (-99999999) 99999999 || !inb mm (-99999999) 99999999) from hE.symm), by rw [ht]; exact ⟨gX_cast hG9 (if_neg (by rw [hE]; decide)).symm, sn, sv, fun z => absurd z (by rw [hE]; decide), hO8⟩⟩, hS.F ht⟩) hS.2.2 dL_both_21 hlocks
    · refine vx_catch (own := RL) (name := "java/lang/IllegalArgumentException") hown [⟨0, 15, 18, 19⟩] ⟨0, 15, 22, 21⟩ [] hTab (fun z h => by cases List.mem_singleton.mp h; exact Or.inr ⟨by decide, "java/lang/IndexOutOfBoundsException", (hts _ (List.mem_cons_of_mem _ mw604)), hM.2.1.2.2.2.2.2.2.2.2.2.2.2⟩) (by decide) (by decide) (hts _ (List.mem_cons_of_mem _ mw605)) (va_Nw.use rfl hL.2.2.2) hce hcv hcl ?_
      refine lv_astore (lv' := [(6, .ref q9), (0, .ref (q 0)), (1, .int (iZ z1)), (2, .int (iZ yy)), (3, .int (iZ mm)), (4, .int (iZ (bZ (bb)))), (5, .ref o)]) hx hb dL_both_22 hl (by decide) rfl (fun ls hl => ?_)
      refine lv_iconst (v := iZ 2) hx hb dL_both_24 rfl ?_
      refine W.widen (k := 3) (n := 18) (Nat.le_of_ble_eq_true rfl) (Nat.le_of_ble_eq_true rfl) ?_
      exact W.iret (v := iZ 2) hx hb hr (fun t ht hW => ⟨⟨congrArg (fun z : Int => Outcome.returned (some (Value.int (iZ z)))) (show 2 = ex2 (!inb z1 0 3) (!inb yy (-99999999) 99999999 || !inb mm (-99999999) 99999999) from hE.symm), by rw [ht]; exact ⟨gX_cast hG9 (if_neg (by rw [hE]; decide)).symm, sn, sv, fun z => absurd z (by rw [hE]; decide), hO8⟩⟩, hS.F ht⟩) hS.2.2 dL_both_25 hlocks
  obtain ⟨tb1, tn1, tm1, htn1, hfit1, htm1, hP1⟩ := hG1
  have hPO := hP1.app (hO.kept (H1 := H1) (fun i p hp => hk9 _ (hO i p hp).lt (by match i, hp with | 0, hp => cases hp; exact hno (hO 0 _ rfl).lt | n + 1, hp => cases hp)))
  generalize H1 = H at hPO hS ⊢
  clear hk9 hy9
  refine kz_w32 ?_
  refine kz_i2l hx hb (w32_rng _) dL_both_11 ?_
  refine va_putN (D := (dC, dI)) (ci := 5) (v := .long (lZ ((w32 (putLr (cnt (σ 0 (z1.toNat)) (σ 1 (z1.toNat)) + sgn (12 * yy + mm) bb)))))) (ty := .long) (C := RX2) (T := TX2) (N := 2) hx hb hts (fun w h => List.mem_cons_of_mem _ (gF_1_in h)) tyX2 tyX2_ok nmX2 hown hM.1 hPO (kXO_D hq ho9) hS 9 rfl rfl 0 (by decide) (va_Nw.use rfl hL.1) (fun _ h9 => h9) rfl (by decide +kernel) rfl rfl (Nat.le_of_ble_eq_true rfl) dL_both_12 (fun H locs hPO hD hS => ?_)
  refine lv_goto (tgt := 26) hx hb dL_both_15 (by decide) ?_
  refine lv_iconst (v := iZ 0) hx hb dL_both_26 rfl ?_
  refine W.widen (k := 3) (n := 18) (Nat.le_of_ble_eq_true rfl) (Nat.le_of_ble_eq_true rfl) ?_
  exact W.iret (v := iZ 0) hx hb hr (fun t ht hW => ⟨⟨congrArg (fun z : Int => Outcome.returned (some (Value.int (iZ z)))) (show 0 = ex2 (!inb z1 0 3) (!inb yy (-99999999) 99999999 || !inb mm (-99999999) 99999999) from hE.symm), by rw [ht]; exact ⟨gX_cast ⟨tb1, tn1, tm1, htn1, hfit1, htm1, va_Pl (a := kX q dA (putLs σ (z1.toNat) (cnt (σ 0 (z1.toNat)) (σ 1 (z1.toNat)) + sgn (12 * yy + mm) bb)) tb1 (nI tn1) tm1) hPO⟩ (if_pos hE).symm, _, _, fun _ => rfl, va_Pr (a := kX q dA (putLs σ (z1.toNat) (cnt (σ 0 (z1.toNat)) (σ 1 (z1.toNat)) + sgn (12 * yy + mm) bb)) tb1 (nI tn1) tm1) hPO⟩⟩, hS.F ht⟩) hS.2.2 dL_both_27 hlocks

abbrev ww_L_leafYear : List Cond := .codeWith yL_leafYear cL_leafYear 5 (some .int) [(0, 11, 14, 19), (0, 11, 18, 21)] :: gT
set_option maxHeartbeats 4000000 in
set_option maxRecDepth 100000 in
theorem c_L_leafYear (l : Launch) (hst : l.stackTraces = false) (dC : Nat → ClassId) (dI : Nat → Nat → Nat) (dA : Nat → ClassId) (k : Nat → Nat) (q : Nat → Nat) (σ : Nat → Nat → Int) (H0 : Heap) (hG : gX dC dI dA q σ H0) (hOK : kOK σ) (hq : kQI q k) (o : Nat) (sn : Int) (sv : Value) (hO : va_P (dC, dI) vwCl [(o, .inr (5, [.long (lZ sn), sv]))] H0) (hko : k 0 ≤ o) (ho9 : ∀ i : Nat, i < 9 → q i ≠ o) (z1 : Int) (yy : Int) (rz1 : -2147483648 ≤ z1 ∧ z1 < 2147483648) (ryy : -2147483648 ≤ yy ∧ yy < 2147483648) : Met l yL_leafYear ww_L_leafYear ({ frames := 11, cells := 2, slots := 12, locals := 366 }) (va_Pc [.ref (q 0), .int (iZ z1), .int (iZ yy), .ref o] (fun U => U.heap = H0 ∧ kMJ dC dI dA k U ∧ kL U)) (kQ2 (some (.int (iZ (ex2 (!inb z1 0 3) (!inb yy (-999999999) 999999999))))) (fun H => gX dC dI dA q (if ex2 (!inb z1 0 3) (!inb yy (-999999999) 999999999) = 0 then (sU (sU σ 0 z1.toNat yy) 1 z1.toNat (σ 1 (z1.toNat))) else σ) H ∧ gO dC dI o (fun n => ex2 (!inb z1 0 3) (!inb yy (-999999999) 999999999) = 0 → n = w32 (σ 0 (z1.toNat))) H) (kAO q o H0.size)) 2 12 (kAO q o H0.size) := by
  refine k_ofWH (cc := cL_leafYear) (maxL := 5) (ret := (some .int)) (hh := [(0, 11, 14, 19), (0, 11, 18, 21)]) (by decide) rfl ?_
  intro p e s m args below meth c s₁ B hml hv
  obtain ⟨rfl, hH, hMJ, hL⟩ := hv
  subst hH
  have hM := hMJ.1
  have hAN : ∀ a, kAO q o s.heap.size a → k 0 ≤ a := kAO_N hq hko hM.2.1.1
  have hS : va_S (kAO q o s.heap.size) s.heap s.heap [] := va_S.rf
  have hno : o < s.heap.size → ¬ kA q s.heap.size o := fun h z => z.elim (fun ⟨i, hi, e9⟩ => ho9 i hi e9.symm) (fun y => absurd h (Nat.not_lt.mpr y))
  obtain ⟨tb, tn, tm, htn, hfit, htm, hPx⟩ := id hG
  have hx := B.exec
  have hb := B.bytes
  have hr := B.returns
  have hts := atoms_spec (ws := ww_L_leafYear) B.pre
  have hown : s.vm.findClass RL = some m.cls := findClass_of_methodNamed B.named
  have hlocks := B.notSynchronized
  have hl := lv_entry ([.ref (q 0), .int (iZ z1), .int (iZ yy), .ref o]) (n := 5) (Nat.le_of_ble_eq_true rfl)
  rw [lg_entry_eq]
  generalize (lg_sl ([.ref (q 0), .int (iZ z1), .int (iZ yy), .ref o]) ++ List.replicate (5 - (lg_sl ([.ref (q 0), .int (iZ z1), .int (iZ yy), .ref o])).length) Slot.unset).toArray = ls at hl ⊢
  have hl : lv_has ls 5 [(0, .ref (q 0)), (1, .int (iZ z1)), (2, .int (iZ yy)), (3, .ref o)] := hl
  have hTab := vx_table (x := yL_leafYear) B (hts _ List.mem_cons_self)
  refine lv_aload_n hx hb dL_leafYear_0 rfl (lv_at hl 3 rfl) ?_
  refine lv_aload_n hx hb dL_leafYear_1 rfl (lv_at hl 0 rfl) ?_
  refine lv_iload_n hx hb dL_leafYear_2 rfl (lv_at hl 1 rfl) ?_
  refine lv_iload_n hx hb dL_leafYear_3 rfl (lv_at hl 2 rfl) ?_
  refine kcxc (vx_runV (As := [.int (iZ z1), .int (iZ yy)]) (rest := [.ref o]) ⟨hx, hb, hml, hown, hts⟩ (c_X1_leafYear l hst dC dI dA k q σ _ hG hOK hq z1 yy rz1 ryy) (cwV 2 hts (kg_V mw672 mw673 mw674 mw42 rfl mw675) rfl rfl rfl hdV_X1_leafYear ⟨Nat.le_of_ble_eq_true rfl, Nat.le_of_ble_eq_true rfl⟩) ⟨fun a U g mk q => ⟨q.1, q.2.1, kM_call q.2.2⟩, va_recv hM.1 hPx (ci := 4) (q0 := 0) rfl rfl, fun U hU hW => ⟨rfl, hU, kM_kept hM hS hAN hU hW⟩⟩ rfl rfl hl.1 rfl (lv_room (Nat.le_of_ble_eq_true rfl)) dL_leafYear_4 ⟨Nat.le_of_ble_eq_true rfl, Nat.le_of_ble_eq_true rfl⟩) hS (fun a _ h => Or.inl h) (fun a h => Or.inl h) (fun E ce q9 H1 locs hE hy9 hk9 hS hce hcv hcl => ?_) (fun H1 locs hG1 hE hy9 hk9 hS => ?_)
  · have hG9 : gX dC dI dA q σ H1 := gX_kept hG (fun i _ h => hk9 _ h)
    have hO8 := hO.kept (H1 := H1) (fun i p hp => hk9 _ (hO i p hp).lt)
    rcases hE with ⟨hE, rfl⟩ | ⟨hE, rfl⟩
    · refine vx_catch (own := RL) (name := "java/lang/IndexOutOfBoundsException") hown [] ⟨0, 11, 14, 19⟩ [⟨0, 11, 18, 21⟩] hTab (fun z h => absurd h List.not_mem_nil) (by decide) (by decide) (hts _ (List.mem_cons_of_mem _ mw604)) (va_Nw.use rfl hL.2.2.1) hce hcv hcl ?_
      refine lv_astore (lv' := [(4, .ref q9), (0, .ref (q 0)), (1, .int (iZ z1)), (2, .int (iZ yy)), (3, .ref o)]) hx hb dL_leafYear_14 hl (by decide) rfl (fun ls hl => ?_)
      refine lv_iconst (v := iZ 1) hx hb dL_leafYear_16 rfl ?_
      refine W.widen (k := 2) (n := 12) (Nat.le_of_ble_eq_true rfl) (Nat.le_of_ble_eq_true rfl) ?_
      exact W.iret (v := iZ 1) hx hb hr (fun t ht hW => ⟨⟨congrArg (fun z : Int => Outcome.returned (some (Value.int (iZ z)))) (show 1 = ex2 (!inb z1 0 3) (!inb yy (-999999999) 999999999) from hE.symm), by rw [ht]; exact ⟨gX_cast hG9 (if_neg (by rw [hE]; decide)).symm, sn, sv, fun z => absurd z (by rw [hE]; decide), hO8⟩⟩, hS.F ht⟩) hS.2.2 dL_leafYear_17 hlocks
    · refine vx_catch (own := RL) (name := "java/lang/IllegalArgumentException") hown [⟨0, 11, 14, 19⟩] ⟨0, 11, 18, 21⟩ [] hTab (fun z h => by cases List.mem_singleton.mp h; exact Or.inr ⟨by decide, "java/lang/IndexOutOfBoundsException", (hts _ (List.mem_cons_of_mem _ mw604)), hM.2.1.2.2.2.2.2.2.2.2.2.2.2⟩) (by decide) (by decide) (hts _ (List.mem_cons_of_mem _ mw605)) (va_Nw.use rfl hL.2.2.2) hce hcv hcl ?_
      refine lv_astore (lv' := [(4, .ref q9), (0, .ref (q 0)), (1, .int (iZ z1)), (2, .int (iZ yy)), (3, .ref o)]) hx hb dL_leafYear_18 hl (by decide) rfl (fun ls hl => ?_)
      refine lv_iconst (v := iZ 2) hx hb dL_leafYear_20 rfl ?_
      refine W.widen (k := 2) (n := 12) (Nat.le_of_ble_eq_true rfl) (Nat.le_of_ble_eq_true rfl) ?_
      exact W.iret (v := iZ 2) hx hb hr (fun t ht hW => ⟨⟨congrArg (fun z : Int => Outcome.returned (some (Value.int (iZ z)))) (show 2 = ex2 (!inb z1 0 3) (!inb yy (-999999999) 999999999) from hE.symm), by rw [ht]; exact ⟨gX_cast hG9 (if_neg (by rw [hE]; decide)).symm, sn, sv, fun z => absurd z (by rw [hE]; decide), hO8⟩⟩, hS.F ht⟩) hS.2.2 dL_leafYear_21 hlocks
  obtain ⟨tb1, tn1, tm1, htn1, hfit1, htm1, hP1⟩ := hG1
  have hPO := hP1.app (hO.kept (H1 := H1) (fun i p hp => hk9 _ (hO i p hp).lt (by match i, hp with | 0, hp => cases hp; exact hno (hO 0 _ rfl).lt | n + 1, hp => cases hp)))
  generalize H1 = H at hPO hS ⊢
  clear hk9 hy9
  refine kz_w32 ?_
  refine kz_i2l hx hb (w32_rng _) dL_leafYear_7 ?_
  refine va_putN (D := (dC, dI)) (ci := 5) (v := .long (lZ ((w32 (σ 0 (z1.toNat)))))) (ty := .long) (C := RX2) (T := TX2) (N := 2) hx hb hts (fun w h => List.mem_cons_of_mem _ (gF_1_in h)) tyX2 tyX2_ok nmX2 hown hM.1 hPO (kXO_D hq ho9) hS 9 rfl rfl 0 (by decide) (va_Nw.use rfl hL.1) (fun _ h9 => h9) rfl (by decide +kernel) rfl rfl (Nat.le_of_ble_eq_true rfl) dL_leafYear_8 (fun H locs hPO hD hS => ?_)
  refine lv_goto (tgt := 22) hx hb dL_leafYear_11 (by decide) ?_
  refine lv_iconst (v := iZ 0) hx hb dL_leafYear_22 rfl ?_
  refine W.widen (k := 2) (n := 12) (Nat.le_of_ble_eq_true rfl) (Nat.le_of_ble_eq_true rfl) ?_
  exact W.iret (v := iZ 0) hx hb hr (fun t ht hW => ⟨⟨congrArg (fun z : Int => Outcome.returned (some (Value.int (iZ z)))) (show 0 = ex2 (!inb z1 0 3) (!inb yy (-999999999) 999999999) from hE.symm), by rw [ht]; exact ⟨gX_cast ⟨tb1, tn1, tm1, htn1, hfit1, htm1, va_Pl (a := kX q dA (sU (sU σ 0 z1.toNat yy) 1 z1.toNat (σ 1 (z1.toNat))) tb1 (nI tn1) tm1) hPO⟩ (if_pos hE).symm, _, _, fun _ => rfl, va_Pr (a := kX q dA (sU (sU σ 0 z1.toNat yy) 1 z1.toNat (σ 1 (z1.toNat))) tb1 (nI tn1) tm1) hPO⟩⟩, hS.F ht⟩) hS.2.2 dL_leafYear_23 hlocks

abbrev ww_L_leafMonth : List Cond := .codeWith yL_leafMonth cL_leafMonth 5 (some .int) [(0, 11, 14, 19), (0, 11, 18, 21)] :: gT
set_option maxHeartbeats 4000000 in
set_option maxRecDepth 100000 in
theorem c_L_leafMonth (l : Launch) (hst : l.stackTraces = false) (dC : Nat → ClassId) (dI : Nat → Nat → Nat) (dA : Nat → ClassId) (k : Nat → Nat) (q : Nat → Nat) (σ : Nat → Nat → Int) (H0 : Heap) (hG : gX dC dI dA q σ H0) (hOK : kOK σ) (hq : kQI q k) (o : Nat) (sn : Int) (sv : Value) (hO : va_P (dC, dI) vwCl [(o, .inr (5, [.long (lZ sn), sv]))] H0) (hko : k 0 ≤ o) (ho9 : ∀ i : Nat, i < 9 → q i ≠ o) (z1 : Int) (mo : Int) (rz1 : -2147483648 ≤ z1 ∧ z1 < 2147483648) (rmo : -2147483648 ≤ mo ∧ mo < 2147483648) : Met l yL_leafMonth ww_L_leafMonth ({ frames := 11, cells := 2, slots := 12, locals := 366 }) (va_Pc [.ref (q 0), .int (iZ z1), .int (iZ mo), .ref o] (fun U => U.heap = H0 ∧ kMJ dC dI dA k U ∧ kL U)) (kQ2 (some (.int (iZ (ex2 (!inb z1 0 3) (!inb mo 1 12))))) (fun H => gX dC dI dA q (if ex2 (!inb z1 0 3) (!inb mo 1 12) = 0 then (sU (sU σ 0 z1.toNat (σ 0 (z1.toNat))) 1 z1.toNat mo) else σ) H ∧ gO dC dI o (fun n => ex2 (!inb z1 0 3) (!inb mo 1 12) = 0 → n = w32 (σ 1 (z1.toNat))) H) (kAO q o H0.size)) 2 12 (kAO q o H0.size) := by
  refine k_ofWH (cc := cL_leafMonth) (maxL := 5) (ret := (some .int)) (hh := [(0, 11, 14, 19), (0, 11, 18, 21)]) (by decide) rfl ?_
  intro p e s m args below meth c s₁ B hml hv
  obtain ⟨rfl, hH, hMJ, hL⟩ := hv
  subst hH
  have hM := hMJ.1
  have hAN : ∀ a, kAO q o s.heap.size a → k 0 ≤ a := kAO_N hq hko hM.2.1.1
  have hS : va_S (kAO q o s.heap.size) s.heap s.heap [] := va_S.rf
  have hno : o < s.heap.size → ¬ kA q s.heap.size o := fun h z => z.elim (fun ⟨i, hi, e9⟩ => ho9 i hi e9.symm) (fun y => absurd h (Nat.not_lt.mpr y))
  obtain ⟨tb, tn, tm, htn, hfit, htm, hPx⟩ := id hG
  have hx := B.exec
  have hb := B.bytes
  have hr := B.returns
  have hts := atoms_spec (ws := ww_L_leafMonth) B.pre
  have hown : s.vm.findClass RL = some m.cls := findClass_of_methodNamed B.named
  have hlocks := B.notSynchronized
  have hl := lv_entry ([.ref (q 0), .int (iZ z1), .int (iZ mo), .ref o]) (n := 5) (Nat.le_of_ble_eq_true rfl)
  rw [lg_entry_eq]
  generalize (lg_sl ([.ref (q 0), .int (iZ z1), .int (iZ mo), .ref o]) ++ List.replicate (5 - (lg_sl ([.ref (q 0), .int (iZ z1), .int (iZ mo), .ref o])).length) Slot.unset).toArray = ls at hl ⊢
  have hl : lv_has ls 5 [(0, .ref (q 0)), (1, .int (iZ z1)), (2, .int (iZ mo)), (3, .ref o)] := hl
  have hTab := vx_table (x := yL_leafMonth) B (hts _ List.mem_cons_self)
  refine lv_aload_n hx hb dL_leafMonth_0 rfl (lv_at hl 3 rfl) ?_
  refine lv_aload_n hx hb dL_leafMonth_1 rfl (lv_at hl 0 rfl) ?_
  refine lv_iload_n hx hb dL_leafMonth_2 rfl (lv_at hl 1 rfl) ?_
  refine lv_iload_n hx hb dL_leafMonth_3 rfl (lv_at hl 2 rfl) ?_
  refine kcxc (vx_runV (As := [.int (iZ z1), .int (iZ mo)]) (rest := [.ref o]) ⟨hx, hb, hml, hown, hts⟩ (c_X1_leafMonth l hst dC dI dA k q σ _ hG hOK hq z1 mo rz1 rmo) (cwV 2 hts (kg_V mw679 mw680 mw681 mw42 rfl mw682) rfl rfl rfl hdV_X1_leafMonth ⟨Nat.le_of_ble_eq_true rfl, Nat.le_of_ble_eq_true rfl⟩) ⟨fun a U g mk q => ⟨q.1, q.2.1, kM_call q.2.2⟩, va_recv hM.1 hPx (ci := 4) (q0 := 0) rfl rfl, fun U hU hW => ⟨rfl, hU, kM_kept hM hS hAN hU hW⟩⟩ rfl rfl hl.1 rfl (lv_room (Nat.le_of_ble_eq_true rfl)) dL_leafMonth_4 ⟨Nat.le_of_ble_eq_true rfl, Nat.le_of_ble_eq_true rfl⟩) hS (fun a _ h => Or.inl h) (fun a h => Or.inl h) (fun E ce q9 H1 locs hE hy9 hk9 hS hce hcv hcl => ?_) (fun H1 locs hG1 hE hy9 hk9 hS => ?_)
  · have hG9 : gX dC dI dA q σ H1 := gX_kept hG (fun i _ h => hk9 _ h)
    have hO8 := hO.kept (H1 := H1) (fun i p hp => hk9 _ (hO i p hp).lt)
    rcases hE with ⟨hE, rfl⟩ | ⟨hE, rfl⟩
    · refine vx_catch (own := RL) (name := "java/lang/IndexOutOfBoundsException") hown [] ⟨0, 11, 14, 19⟩ [⟨0, 11, 18, 21⟩] hTab (fun z h => absurd h List.not_mem_nil) (by decide) (by decide) (hts _ (List.mem_cons_of_mem _ mw604)) (va_Nw.use rfl hL.2.2.1) hce hcv hcl ?_
      refine lv_astore (lv' := [(4, .ref q9), (0, .ref (q 0)), (1, .int (iZ z1)), (2, .int (iZ mo)), (3, .ref o)]) hx hb dL_leafMonth_14 hl (by decide) rfl (fun ls hl => ?_)
      refine lv_iconst (v := iZ 1) hx hb dL_leafMonth_16 rfl ?_
      refine W.widen (k := 2) (n := 12) (Nat.le_of_ble_eq_true rfl) (Nat.le_of_ble_eq_true rfl) ?_
      exact W.iret (v := iZ 1) hx hb hr (fun t ht hW => ⟨⟨congrArg (fun z : Int => Outcome.returned (some (Value.int (iZ z)))) (show 1 = ex2 (!inb z1 0 3) (!inb mo 1 12) from hE.symm), by rw [ht]; exact ⟨gX_cast hG9 (if_neg (by rw [hE]; decide)).symm, sn, sv, fun z => absurd z (by rw [hE]; decide), hO8⟩⟩, hS.F ht⟩) hS.2.2 dL_leafMonth_17 hlocks
    · refine vx_catch (own := RL) (name := "java/lang/IllegalArgumentException") hown [⟨0, 11, 14, 19⟩] ⟨0, 11, 18, 21⟩ [] hTab (fun z h => by cases List.mem_singleton.mp h; exact Or.inr ⟨by decide, "java/lang/IndexOutOfBoundsException", (hts _ (List.mem_cons_of_mem _ mw604)), hM.2.1.2.2.2.2.2.2.2.2.2.2.2⟩) (by decide) (by decide) (hts _ (List.mem_cons_of_mem _ mw605)) (va_Nw.use rfl hL.2.2.2) hce hcv hcl ?_
      refine lv_astore (lv' := [(4, .ref q9), (0, .ref (q 0)), (1, .int (iZ z1)), (2, .int (iZ mo)), (3, .ref o)]) hx hb dL_leafMonth_18 hl (by decide) rfl (fun ls hl => ?_)
      refine lv_iconst (v := iZ 2) hx hb dL_leafMonth_20 rfl ?_
      refine W.widen (k := 2) (n := 12) (Nat.le_of_ble_eq_true rfl) (Nat.le_of_ble_eq_true rfl) ?_
      exact W.iret (v := iZ 2) hx hb hr (fun t ht hW => ⟨⟨congrArg (fun z : Int => Outcome.returned (some (Value.int (iZ z)))) (show 2 = ex2 (!inb z1 0 3) (!inb mo 1 12) from hE.symm), by rw [ht]; exact ⟨gX_cast hG9 (if_neg (by rw [hE]; decide)).symm, sn, sv, fun z => absurd z (by rw [hE]; decide), hO8⟩⟩, hS.F ht⟩) hS.2.2 dL_leafMonth_21 hlocks
  obtain ⟨tb1, tn1, tm1, htn1, hfit1, htm1, hP1⟩ := hG1
  have hPO := hP1.app (hO.kept (H1 := H1) (fun i p hp => hk9 _ (hO i p hp).lt (by match i, hp with | 0, hp => cases hp; exact hno (hO 0 _ rfl).lt | n + 1, hp => cases hp)))
  generalize H1 = H at hPO hS ⊢
  clear hk9 hy9
  refine kz_w32 ?_
  refine kz_i2l hx hb (w32_rng _) dL_leafMonth_7 ?_
  refine va_putN (D := (dC, dI)) (ci := 5) (v := .long (lZ ((w32 (σ 1 (z1.toNat)))))) (ty := .long) (C := RX2) (T := TX2) (N := 2) hx hb hts (fun w h => List.mem_cons_of_mem _ (gF_1_in h)) tyX2 tyX2_ok nmX2 hown hM.1 hPO (kXO_D hq ho9) hS 9 rfl rfl 0 (by decide) (va_Nw.use rfl hL.1) (fun _ h9 => h9) rfl (by decide +kernel) rfl rfl (Nat.le_of_ble_eq_true rfl) dL_leafMonth_8 (fun H locs hPO hD hS => ?_)
  refine lv_goto (tgt := 22) hx hb dL_leafMonth_11 (by decide) ?_
  refine lv_iconst (v := iZ 0) hx hb dL_leafMonth_22 rfl ?_
  refine W.widen (k := 2) (n := 12) (Nat.le_of_ble_eq_true rfl) (Nat.le_of_ble_eq_true rfl) ?_
  exact W.iret (v := iZ 0) hx hb hr (fun t ht hW => ⟨⟨congrArg (fun z : Int => Outcome.returned (some (Value.int (iZ z)))) (show 0 = ex2 (!inb z1 0 3) (!inb mo 1 12) from hE.symm), by rw [ht]; exact ⟨gX_cast ⟨tb1, tn1, tm1, htn1, hfit1, htm1, va_Pl (a := kX q dA (sU (sU σ 0 z1.toNat (σ 0 (z1.toNat))) 1 z1.toNat mo) tb1 (nI tn1) tm1) hPO⟩ (if_pos hE).symm, _, _, fun _ => rfl, va_Pr (a := kX q dA (sU (sU σ 0 z1.toNat (σ 0 (z1.toNat))) 1 z1.toNat mo) tb1 (nI tn1) tm1) hPO⟩⟩, hS.F ht⟩) hS.2.2 dL_leafMonth_23 hlocks

abbrev ww_L_leafWith : List Cond := .codeWith yL_leafWith cL_leafWith 6 (some .int) [(0, 13, 16, 19), (0, 13, 20, 21)] :: gT
set_option maxHeartbeats 4000000 in
set_option maxRecDepth 100000 in
theorem c_L_leafWith (l : Launch) (hst : l.stackTraces = false) (dC : Nat → ClassId) (dI : Nat → Nat → Nat) (dA : Nat → ClassId) (k : Nat → Nat) (q : Nat → Nat) (σ : Nat → Nat → Int) (H0 : Heap) (hG : gX dC dI dA q σ H0) (hOK : kOK σ) (hq : kQI q k) (o : Nat) (sn : Int) (sv : Value) (hO : va_P (dC, dI) vwCl [(o, .inr (5, [.long (lZ sn), sv]))] H0) (hko : k 0 ≤ o) (ho9 : ∀ i : Nat, i < 9 → q i ≠ o) (z1 : Int) (w0 : Int) (v0 : Int) (rz1 : -2147483648 ≤ z1 ∧ z1 < 2147483648) (rw0 : -2147483648 ≤ w0 ∧ w0 < 2147483648) (rv0 : -2147483648 ≤ v0 ∧ v0 < 2147483648) : Met l yL_leafWith ww_L_leafWith ({ frames := 12, cells := 3, slots := 18, locals := 388 }) (va_Pc [.ref (q 0), .int (iZ z1), .int (iZ w0), .int (iZ v0), .ref o] (fun U => U.heap = H0 ∧ kMJ dC dI dA k U ∧ kL U)) (kQ2 (some (.int (iZ (ex2 (!inb z1 0 3) (!inb w0 0 4 || noThing w0 v0))))) (fun H => gX dC dI dA q (if ex2 (!inb z1 0 3) (!inb w0 0 4 || noThing w0 v0) = 0 then (lwS σ (z1.toNat) w0 v0) else σ) H ∧ gO dC dI o (fun n => ex2 (!inb z1 0 3) (!inb w0 0 4 || noThing w0 v0) = 0 → n = w32 (lwR σ (z1.toNat) w0 v0)) H) (kAO q o H0.size)) 3 18 (kAO q o H0.size) := by
  refine k_ofWH (cc := cL_leafWith) (maxL := 6) (ret := (some .int)) (hh := [(0, 13, 16, 19), (0, 13, 20, 21)]) (by decide) rfl ?_
  intro p e s m args below meth c s₁ B hml hv
  obtain ⟨rfl, hH, hMJ, hL⟩ := hv
  subst hH
  have hM := hMJ.1
  have hAN : ∀ a, kAO q o s.heap.size a → k 0 ≤ a := kAO_N hq hko hM.2.1.1
  have hS : va_S (kAO q o s.heap.size) s.heap s.heap [] := va_S.rf
  have hno : o < s.heap.size → ¬ kA q s.heap.size o := fun h z => z.elim (fun ⟨i, hi, e9⟩ => ho9 i hi e9.symm) (fun y => absurd h (Nat.not_lt.mpr y))
  obtain ⟨tb, tn, tm, htn, hfit, htm, hPx⟩ := id hG
  have hx := B.exec
  have hb := B.bytes
  have hr := B.returns
  have hts := atoms_spec (ws := ww_L_leafWith) B.pre
  have hown : s.vm.findClass RL = some m.cls := findClass_of_methodNamed B.named
  have hlocks := B.notSynchronized
  have hl := lv_entry ([.ref (q 0), .int (iZ z1), .int (iZ w0), .int (iZ v0), .ref o]) (n := 6) (Nat.le_of_ble_eq_true rfl)
  rw [lg_entry_eq]
  generalize (lg_sl ([.ref (q 0), .int (iZ z1), .int (iZ w0), .int (iZ v0), .ref o]) ++ List.replicate (6 - (lg_sl ([.ref (q 0), .int (iZ z1), .int (iZ w0), .int (iZ v0), .ref o])).length) Slot.unset).toArray = ls at hl ⊢
  have hl : lv_has ls 6 [(0, .ref (q 0)), (1, .int (iZ z1)), (2, .int (iZ w0)), (3, .int (iZ v0)), (4, .ref o)] := hl
  have hTab := vx_table (x := yL_leafWith) B (hts _ List.mem_cons_self)
  refine lv_aload hx hb dL_leafWith_0 (lv_at hl 4 rfl) ?_
  refine lv_aload_n hx hb dL_leafWith_2 rfl (lv_at hl 0 rfl) ?_
  refine lv_iload_n hx hb dL_leafWith_3 rfl (lv_at hl 1 rfl) ?_
  refine lv_iload_n hx hb dL_leafWith_4 rfl (lv_at hl 2 rfl) ?_
  refine lv_iload_n hx hb dL_leafWith_5 rfl (lv_at hl 3 rfl) ?_
  refine kcxc (vx_runV (As := [.int (iZ z1), .int (iZ w0), .int (iZ v0)]) (rest := [.ref o]) ⟨hx, hb, hml, hown, hts⟩ (c_X1_leafWith l hst dC dI dA k q σ _ hG hOK hq z1 w0 v0 rz1 rw0 rv0) (cwV 3 hts (kg_V mw686 mw687 mw688 mw42 rfl mw689) rfl rfl rfl hdV_X1_leafWith ⟨Nat.le_of_ble_eq_true rfl, Nat.le_of_ble_eq_true rfl⟩) ⟨fun a U g mk q => ⟨q.1, q.2.1, kM_call q.2.2⟩, va_recv hM.1 hPx (ci := 4) (q0 := 0) rfl rfl, fun U hU hW => ⟨rfl, hU, kM_kept hM hS hAN hU hW⟩⟩ rfl rfl hl.1 rfl (lv_room (Nat.le_of_ble_eq_true rfl)) dL_leafWith_6 ⟨Nat.le_of_ble_eq_true rfl, Nat.le_of_ble_eq_true rfl⟩) hS (fun a _ h => Or.inl h) (fun a h => Or.inl h) (fun E ce q9 H1 locs hE hy9 hk9 hS hce hcv hcl => ?_) (fun H1 locs hG1 hE hy9 hk9 hS => ?_)
  · have hG9 : gX dC dI dA q σ H1 := gX_kept hG (fun i _ h => hk9 _ h)
    have hO8 := hO.kept (H1 := H1) (fun i p hp => hk9 _ (hO i p hp).lt)
    rcases hE with ⟨hE, rfl⟩ | ⟨hE, rfl⟩
    · refine vx_catch (own := RL) (name := "java/lang/IndexOutOfBoundsException") hown [] ⟨0, 13, 16, 19⟩ [⟨0, 13, 20, 21⟩] hTab (fun z h => absurd h List.not_mem_nil) (by decide) (by decide) (hts _ (List.mem_cons_of_mem _ mw604)) (va_Nw.use rfl hL.2.2.1) hce hcv hcl ?_
      refine lv_astore (lv' := [(5, .ref q9), (0, .ref (q 0)), (1, .int (iZ z1)), (2, .int (iZ w0)), (3, .int (iZ v0)), (4, .ref o)]) hx hb dL_leafWith_16 hl (by decide) rfl (fun ls hl => ?_)
      refine lv_iconst (v := iZ 1) hx hb dL_leafWith_18 rfl ?_
      refine W.widen (k := 3) (n := 18) (Nat.le_of_ble_eq_true rfl) (Nat.le_of_ble_eq_true rfl) ?_
      exact W.iret (v := iZ 1) hx hb hr (fun t ht hW => ⟨⟨congrArg (fun z : Int => Outcome.returned (some (Value.int (iZ z)))) (show 1 = ex2 (!inb z1 0 3) (!inb w0 0 4 || noThing w0 v0) from hE.symm), by rw [ht]; exact ⟨gX_cast hG9 (if_neg (by rw [hE]; decide)).symm, sn, sv, fun z => absurd z (by rw [hE]; decide), hO8⟩⟩, hS.F ht⟩) hS.2.2 dL_leafWith_19 hlocks
    · refine vx_catch (own := RL) (name := "java/lang/IllegalArgumentException") hown [⟨0, 13, 16, 19⟩] ⟨0, 13, 20, 21⟩ [] hTab (fun z h => by cases List.mem_singleton.mp h; exact Or.inr ⟨by decide, "java/lang/IndexOutOfBoundsException", (hts _ (List.mem_cons_of_mem _ mw604)), hM.2.1.2.2.2.2.2.2.2.2.2.2.2⟩) (by decide) (by decide) (hts _ (List.mem_cons_of_mem _ mw605)) (va_Nw.use rfl hL.2.2.2) hce hcv hcl ?_
      refine lv_astore (lv' := [(5, .ref q9), (0, .ref (q 0)), (1, .int (iZ z1)), (2, .int (iZ w0)), (3, .int (iZ v0)), (4, .ref o)]) hx hb dL_leafWith_20 hl (by decide) rfl (fun ls hl => ?_)
      refine lv_iconst (v := iZ 2) hx hb dL_leafWith_22 rfl ?_
      refine W.widen (k := 3) (n := 18) (Nat.le_of_ble_eq_true rfl) (Nat.le_of_ble_eq_true rfl) ?_
      exact W.iret (v := iZ 2) hx hb hr (fun t ht hW => ⟨⟨congrArg (fun z : Int => Outcome.returned (some (Value.int (iZ z)))) (show 2 = ex2 (!inb z1 0 3) (!inb w0 0 4 || noThing w0 v0) from hE.symm), by rw [ht]; exact ⟨gX_cast hG9 (if_neg (by rw [hE]; decide)).symm, sn, sv, fun z => absurd z (by rw [hE]; decide), hO8⟩⟩, hS.F ht⟩) hS.2.2 dL_leafWith_23 hlocks
  obtain ⟨tb1, tn1, tm1, htn1, hfit1, htm1, hP1⟩ := hG1
  have hPO := hP1.app (hO.kept (H1 := H1) (fun i p hp => hk9 _ (hO i p hp).lt (by match i, hp with | 0, hp => cases hp; exact hno (hO 0 _ rfl).lt | n + 1, hp => cases hp)))
  generalize H1 = H at hPO hS ⊢
  clear hk9 hy9
  refine kz_w32 ?_
  refine kz_i2l hx hb (w32_rng _) dL_leafWith_9 ?_
  refine va_putN (D := (dC, dI)) (ci := 5) (v := .long (lZ ((w32 (lwR σ (z1.toNat) w0 v0))))) (ty := .long) (C := RX2) (T := TX2) (N := 2) hx hb hts (fun w h => List.mem_cons_of_mem _ (gF_1_in h)) tyX2 tyX2_ok nmX2 hown hM.1 hPO (kXO_D hq ho9) hS 9 rfl rfl 0 (by decide) (va_Nw.use rfl hL.1) (fun _ h9 => h9) rfl (by decide +kernel) rfl rfl (Nat.le_of_ble_eq_true rfl) dL_leafWith_10 (fun H locs hPO hD hS => ?_)
  refine lv_goto (tgt := 24) hx hb dL_leafWith_13 (by decide) ?_
  refine lv_iconst (v := iZ 0) hx hb dL_leafWith_24 rfl ?_
  refine W.widen (k := 3) (n := 18) (Nat.le_of_ble_eq_true rfl) (Nat.le_of_ble_eq_true rfl) ?_
  exact W.iret (v := iZ 0) hx hb hr (fun t ht hW => ⟨⟨congrArg (fun z : Int => Outcome.returned (some (Value.int (iZ z)))) (show 0 = ex2 (!inb z1 0 3) (!inb w0 0 4 || noThing w0 v0) from hE.symm), by rw [ht]; exact ⟨gX_cast ⟨tb1, tn1, tm1, htn1, hfit1, htm1, va_Pl (a := kX q dA (lwS σ (z1.toNat) w0 v0) tb1 (nI tn1) tm1) hPO⟩ (if_pos hE).symm, _, _, fun _ => rfl, va_Pr (a := kX q dA (lwS σ (z1.toNat) w0 v0) tb1 (nI tn1) tm1) hPO⟩⟩, hS.F ht⟩) hS.2.2 dL_leafWith_25 hlocks

abbrev ww_L_leafOf : List Cond := .codeWith yL_leafOf cL_leafOf 6 (some .int) [(0, 13, 16, 19), (0, 13, 20, 21)] :: gT
set_option maxHeartbeats 4000000 in
set_option maxRecDepth 100000 in
theorem c_L_leafOf (l : Launch) (hst : l.stackTraces = false) (dC : Nat → ClassId) (dI : Nat → Nat → Nat) (dA : Nat → ClassId) (k : Nat → Nat) (q : Nat → Nat) (σ : Nat → Nat → Int) (H0 : Heap) (hG : gX dC dI dA q σ H0) (hOK : kOK σ) (hq : kQI q k) (o : Nat) (sn : Int) (sv : Value) (hO : va_P (dC, dI) vwCl [(o, .inr (5, [.long (lZ sn), sv]))] H0) (hko : k 0 ≤ o) (ho9 : ∀ i : Nat, i < 9 → q i ≠ o) (z1 : Int) (z2 : Int) (mo : Int) (rz1 : -2147483648 ≤ z1 ∧ z1 < 2147483648) (rz2 : -2147483648 ≤ z2 ∧ z2 < 2147483648) (rmo : -2147483648 ≤ mo ∧ mo < 2147483648) : Met l yL_leafOf ww_L_leafOf ({ frames := 11, cells := 3, slots := 18, locals := 365 }) (va_Pc [.ref (q 0), .int (iZ z1), .int (iZ z2), .int (iZ mo), .ref o] (fun U => U.heap = H0 ∧ kMJ dC dI dA k U ∧ kL U)) (kQ2 (some (.int (iZ (ex2 (!inb z1 0 3 || !inb z2 0 3) (!inb mo 1 12))))) (fun H => gX dC dI dA q (if ex2 (!inb z1 0 3 || !inb z2 0 3) (!inb mo 1 12) = 0 then (sU (sU σ 0 z1.toNat (σ 2 (z2.toNat))) 1 z1.toNat mo) else σ) H ∧ gO dC dI o (fun n => ex2 (!inb z1 0 3 || !inb z2 0 3) (!inb mo 1 12) = 0 → n = w32 (mlen (leap (σ 2 (z2.toNat))) mo)) H) (kAO q o H0.size)) 3 18 (kAO q o H0.size) := by
  refine k_ofWH (cc := cL_leafOf) (maxL := 6) (ret := (some .int)) (hh := [(0, 13, 16, 19), (0, 13, 20, 21)]) (by decide) rfl ?_
  intro p e s m args below meth c s₁ B hml hv
  obtain ⟨rfl, hH, hMJ, hL⟩ := hv
  subst hH
  have hM := hMJ.1
  have hAN : ∀ a, kAO q o s.heap.size a → k 0 ≤ a := kAO_N hq hko hM.2.1.1
  have hS : va_S (kAO q o s.heap.size) s.heap s.heap [] := va_S.rf
  have hno : o < s.heap.size → ¬ kA q s.heap.size o := fun h z => z.elim (fun ⟨i, hi, e9⟩ => ho9 i hi e9.symm) (fun y => absurd h (Nat.not_lt.mpr y))
  obtain ⟨tb, tn, tm, htn, hfit, htm, hPx⟩ := id hG
  have hx := B.exec
  have hb := B.bytes
  have hr := B.returns
  have hts := atoms_spec (ws := ww_L_leafOf) B.pre
  have hown : s.vm.findClass RL = some m.cls := findClass_of_methodNamed B.named
  have hlocks := B.notSynchronized
  have hl := lv_entry ([.ref (q 0), .int (iZ z1), .int (iZ z2), .int (iZ mo), .ref o]) (n := 6) (Nat.le_of_ble_eq_true rfl)
  rw [lg_entry_eq]
  generalize (lg_sl ([.ref (q 0), .int (iZ z1), .int (iZ z2), .int (iZ mo), .ref o]) ++ List.replicate (6 - (lg_sl ([.ref (q 0), .int (iZ z1), .int (iZ z2), .int (iZ mo), .ref o])).length) Slot.unset).toArray = ls at hl ⊢
  have hl : lv_has ls 6 [(0, .ref (q 0)), (1, .int (iZ z1)), (2, .int (iZ z2)), (3, .int (iZ mo)), (4, .ref o)] := hl
  have hTab := vx_table (x := yL_leafOf) B (hts _ List.mem_cons_self)
  refine lv_aload hx hb dL_leafOf_0 (lv_at hl 4 rfl) ?_
  refine lv_aload_n hx hb dL_leafOf_2 rfl (lv_at hl 0 rfl) ?_
  refine lv_iload_n hx hb dL_leafOf_3 rfl (lv_at hl 1 rfl) ?_
  refine lv_iload_n hx hb dL_leafOf_4 rfl (lv_at hl 2 rfl) ?_
  refine lv_iload_n hx hb dL_leafOf_5 rfl (lv_at hl 3 rfl) ?_
  refine kcxc (vx_runV (As := [.int (iZ z1), .int (iZ z2), .int (iZ mo)]) (rest := [.ref o]) ⟨hx, hb, hml, hown, hts⟩ (c_X1_leafOf l hst dC dI dA k q σ _ hG hOK hq z1 z2 mo rz1 rz2 rmo) (cwV 3 hts (kg_V mw704 mw705 mw706 mw42 rfl mw707) rfl rfl rfl hdV_X1_leafOf ⟨Nat.le_of_ble_eq_true rfl, Nat.le_of_ble_eq_true rfl⟩) ⟨fun a U g mk q => ⟨q.1, q.2.1, kM_call q.2.2⟩, va_recv hM.1 hPx (ci := 4) (q0 := 0) rfl rfl, fun U hU hW => ⟨rfl, hU, kM_kept hM hS hAN hU hW⟩⟩ rfl rfl hl.1 rfl (lv_room (Nat.le_of_ble_eq_true rfl)) dL_leafOf_6 ⟨Nat.le_of_ble_eq_true rfl, Nat.le_of_ble_eq_true rfl⟩) hS (fun a _ h => Or.inl h) (fun a h => Or.inl h) (fun E ce q9 H1 locs hE hy9 hk9 hS hce hcv hcl => ?_) (fun H1 locs hG1 hE hy9 hk9 hS => ?_)
  · have hG9 : gX dC dI dA q σ H1 := gX_kept hG (fun i _ h => hk9 _ h)
    have hO8 := hO.kept (H1 := H1) (fun i p hp => hk9 _ (hO i p hp).lt)
    rcases hE with ⟨hE, rfl⟩ | ⟨hE, rfl⟩
    · refine vx_catch (own := RL) (name := "java/lang/IndexOutOfBoundsException") hown [] ⟨0, 13, 16, 19⟩ [⟨0, 13, 20, 21⟩] hTab (fun z h => absurd h List.not_mem_nil) (by decide) (by decide) (hts _ (List.mem_cons_of_mem _ mw604)) (va_Nw.use rfl hL.2.2.1) hce hcv hcl ?_
      refine lv_astore (lv' := [(5, .ref q9), (0, .ref (q 0)), (1, .int (iZ z1)), (2, .int (iZ z2)), (3, .int (iZ mo)), (4, .ref o)]) hx hb dL_leafOf_16 hl (by decide) rfl (fun ls hl => ?_)
      refine lv_iconst (v := iZ 1) hx hb dL_leafOf_18 rfl ?_
      refine W.widen (k := 3) (n := 18) (Nat.le_of_ble_eq_true rfl) (Nat.le_of_ble_eq_true rfl) ?_
      exact W.iret (v := iZ 1) hx hb hr (fun t ht hW => ⟨⟨congrArg (fun z : Int => Outcome.returned (some (Value.int (iZ z)))) (show 1 = ex2 (!inb z1 0 3 || !inb z2 0 3) (!inb mo 1 12) from hE.symm), by rw [ht]; exact ⟨gX_cast hG9 (if_neg (by rw [hE]; decide)).symm, sn, sv, fun z => absurd z (by rw [hE]; decide), hO8⟩⟩, hS.F ht⟩) hS.2.2 dL_leafOf_19 hlocks
    · refine vx_catch (own := RL) (name := "java/lang/IllegalArgumentException") hown [⟨0, 13, 16, 19⟩] ⟨0, 13, 20, 21⟩ [] hTab (fun z h => by cases List.mem_singleton.mp h; exact Or.inr ⟨by decide, "java/lang/IndexOutOfBoundsException", (hts _ (List.mem_cons_of_mem _ mw604)), hM.2.1.2.2.2.2.2.2.2.2.2.2.2⟩) (by decide) (by decide) (hts _ (List.mem_cons_of_mem _ mw605)) (va_Nw.use rfl hL.2.2.2) hce hcv hcl ?_
      refine lv_astore (lv' := [(5, .ref q9), (0, .ref (q 0)), (1, .int (iZ z1)), (2, .int (iZ z2)), (3, .int (iZ mo)), (4, .ref o)]) hx hb dL_leafOf_20 hl (by decide) rfl (fun ls hl => ?_)
      refine lv_iconst (v := iZ 2) hx hb dL_leafOf_22 rfl ?_
      refine W.widen (k := 3) (n := 18) (Nat.le_of_ble_eq_true rfl) (Nat.le_of_ble_eq_true rfl) ?_
      exact W.iret (v := iZ 2) hx hb hr (fun t ht hW => ⟨⟨congrArg (fun z : Int => Outcome.returned (some (Value.int (iZ z)))) (show 2 = ex2 (!inb z1 0 3 || !inb z2 0 3) (!inb mo 1 12) from hE.symm), by rw [ht]; exact ⟨gX_cast hG9 (if_neg (by rw [hE]; decide)).symm, sn, sv, fun z => absurd z (by rw [hE]; decide), hO8⟩⟩, hS.F ht⟩) hS.2.2 dL_leafOf_23 hlocks
  obtain ⟨tb1, tn1, tm1, htn1, hfit1, htm1, hP1⟩ := hG1
  have hPO := hP1.app (hO.kept (H1 := H1) (fun i p hp => hk9 _ (hO i p hp).lt (by match i, hp with | 0, hp => cases hp; exact hno (hO 0 _ rfl).lt | n + 1, hp => cases hp)))
  generalize H1 = H at hPO hS ⊢
  clear hk9 hy9
  refine kz_w32 ?_
  refine kz_i2l hx hb (w32_rng _) dL_leafOf_9 ?_
  refine va_putN (D := (dC, dI)) (ci := 5) (v := .long (lZ ((w32 (mlen (leap (σ 2 (z2.toNat))) mo))))) (ty := .long) (C := RX2) (T := TX2) (N := 2) hx hb hts (fun w h => List.mem_cons_of_mem _ (gF_1_in h)) tyX2 tyX2_ok nmX2 hown hM.1 hPO (kXO_D hq ho9) hS 9 rfl rfl 0 (by decide) (va_Nw.use rfl hL.1) (fun _ h9 => h9) rfl (by decide +kernel) rfl rfl (Nat.le_of_ble_eq_true rfl) dL_leafOf_10 (fun H locs hPO hD hS => ?_)
  refine lv_goto (tgt := 24) hx hb dL_leafOf_13 (by decide) ?_
  refine lv_iconst (v := iZ 0) hx hb dL_leafOf_24 rfl ?_
  refine W.widen (k := 3) (n := 18) (Nat.le_of_ble_eq_true rfl) (Nat.le_of_ble_eq_true rfl) ?_
  exact W.iret (v := iZ 0) hx hb hr (fun t ht hW => ⟨⟨congrArg (fun z : Int => Outcome.returned (some (Value.int (iZ z)))) (show 0 = ex2 (!inb z1 0 3 || !inb z2 0 3) (!inb mo 1 12) from hE.symm), by rw [ht]; exact ⟨gX_cast ⟨tb1, tn1, tm1, htn1, hfit1, htm1, va_Pl (a := kX q dA (sU (sU σ 0 z1.toNat (σ 2 (z2.toNat))) 1 z1.toNat mo) tb1 (nI tn1) tm1) hPO⟩ (if_pos hE).symm, _, _, fun _ => rfl, va_Pr (a := kX q dA (sU (sU σ 0 z1.toNat (σ 2 (z2.toNat))) 1 z1.toNat mo) tb1 (nI tn1) tm1) hPO⟩⟩, hS.F ht⟩) hS.2.2 dL_leafOf_25 hlocks

abbrev ww_L_leafOfRound : List Cond := .codeWith yL_leafOfRound cL_leafOfRound 6 (some .int) [(0, 13, 16, 19)] :: gT
set_option maxHeartbeats 4000000 in
set_option maxRecDepth 100000 in
theorem c_L_leafOfRound (l : Launch) (hst : l.stackTraces = false) (dC : Nat → ClassId) (dI : Nat → Nat → Nat) (dA : Nat → ClassId) (k : Nat → Nat) (q : Nat → Nat) (σ : Nat → Nat → Int) (H0 : Heap) (hG : gX dC dI dA q σ H0) (hOK : kOK σ) (hq : kQI q k) (o : Nat) (sn : Int) (sv : Value) (hO : va_P (dC, dI) vwCl [(o, .inr (5, [.long (lZ sn), sv]))] H0) (hko : k 0 ≤ o) (ho9 : ∀ i : Nat, i < 9 → q i ≠ o) (z1 : Int) (z2 : Int) (mm : Int) (rz1 : -2147483648 ≤ z1 ∧ z1 < 2147483648) (rz2 : -2147483648 ≤ z2 ∧ z2 < 2147483648) (rmm : -2147483648 ≤ mm ∧ mm < 2147483648) : Met l yL_leafOfRound ww_L_leafOfRound ({ frames := 10, cells := 2, slots := 12, locals := 344 }) (va_Pc [.ref (q 0), .int (iZ z1), .int (iZ z2), .int (iZ mm), .ref o] (fun U => U.heap = H0 ∧ kMJ dC dI dA k U ∧ kL U)) (kQ2 (some (.int (iZ (ex2 (!inb z1 0 3 || !inb z2 0 3) (false))))) (fun H => gX dC dI dA q (if ex2 (!inb z1 0 3 || !inb z2 0 3) (false) = 0 then (sU (sU σ 0 z1.toNat (σ 2 (z2.toNat))) 1 z1.toNat (1 + mm % 12)) else σ) H ∧ gO dC dI o (fun n => ex2 (!inb z1 0 3 || !inb z2 0 3) (false) = 0 → n = w32 (1 + mm % 12)) H) (kAO q o H0.size)) 2 12 (kAO q o H0.size) := by
  refine k_ofWH (cc := cL_leafOfRound) (maxL := 6) (ret := (some .int)) (hh := [(0, 13, 16, 19)]) (by decide) rfl ?_
  intro p e s m args below meth c s₁ B hml hv
  obtain ⟨rfl, hH, hMJ, hL⟩ := hv
  subst hH
  have hM := hMJ.1
  have hAN : ∀ a, kAO q o s.heap.size a → k 0 ≤ a := kAO_N hq hko hM.2.1.1
  have hS : va_S (kAO q o s.heap.size) s.heap s.heap [] := va_S.rf
  have hno : o < s.heap.size → ¬ kA q s.heap.size o := fun h z => z.elim (fun ⟨i, hi, e9⟩ => ho9 i hi e9.symm) (fun y => absurd h (Nat.not_lt.mpr y))
  obtain ⟨tb, tn, tm, htn, hfit, htm, hPx⟩ := id hG
  have hx := B.exec
  have hb := B.bytes
  have hr := B.returns
  have hts := atoms_spec (ws := ww_L_leafOfRound) B.pre
  have hown : s.vm.findClass RL = some m.cls := findClass_of_methodNamed B.named
  have hlocks := B.notSynchronized
  have hl := lv_entry ([.ref (q 0), .int (iZ z1), .int (iZ z2), .int (iZ mm), .ref o]) (n := 6) (Nat.le_of_ble_eq_true rfl)
  rw [lg_entry_eq]
  generalize (lg_sl ([.ref (q 0), .int (iZ z1), .int (iZ z2), .int (iZ mm), .ref o]) ++ List.replicate (6 - (lg_sl ([.ref (q 0), .int (iZ z1), .int (iZ z2), .int (iZ mm), .ref o])).length) Slot.unset).toArray = ls at hl ⊢
  have hl : lv_has ls 6 [(0, .ref (q 0)), (1, .int (iZ z1)), (2, .int (iZ z2)), (3, .int (iZ mm)), (4, .ref o)] := hl
  have hTab := vx_table (x := yL_leafOfRound) B (hts _ List.mem_cons_self)
  refine lv_aload hx hb dL_leafOfRound_0 (lv_at hl 4 rfl) ?_
  refine lv_aload_n hx hb dL_leafOfRound_2 rfl (lv_at hl 0 rfl) ?_
  refine lv_iload_n hx hb dL_leafOfRound_3 rfl (lv_at hl 1 rfl) ?_
  refine lv_iload_n hx hb dL_leafOfRound_4 rfl (lv_at hl 2 rfl) ?_
  refine lv_iload_n hx hb dL_leafOfRound_5 rfl (lv_at hl 3 rfl) ?_
  refine kcxc (vx_runV (As := [.int (iZ z1), .int (iZ z2), .int (iZ mm)]) (rest := [.ref o]) ⟨hx, hb, hml, hown, hts⟩ (c_X1_leafOfRound l hst dC dI dA k q σ _ hG hOK hq z1 z2 mm rz1 rz2 rmm) (cwV 3 hts (kg_V mw711 mw712 mw713 mw42 rfl mw714) rfl rfl rfl hdV_X1_leafOfRound ⟨Nat.le_of_ble_eq_true rfl, Nat.le_of_ble_eq_true rfl⟩) ⟨fun a U g mk q => ⟨q.1, q.2.1, kM_call q.2.2⟩, va_recv hM.1 hPx (ci := 4) (q0 := 0) rfl rfl, fun U hU hW => ⟨rfl, hU, kM_kept hM hS hAN hU hW⟩⟩ rfl rfl hl.1 rfl (lv_room (Nat.le_of_ble_eq_true rfl)) dL_leafOfRound_6 ⟨Nat.le_of_ble_eq_true rfl, Nat.le_of_ble_eq_true rfl⟩) hS (fun a _ h => Or.inl h) (fun a h => Or.inl h) (fun E ce q9 H1 locs hE hy9 hk9 hS hce hcv hcl => ?_) (fun H1 locs hG1 hE hy9 hk9 hS => ?_)
  · have hG9 : gX dC dI dA q σ H1 := gX_kept hG (fun i _ h => hk9 _ h)
    have hO8 := hO.kept (H1 := H1) (fun i p hp => hk9 _ (hO i p hp).lt)
    rcases hE with ⟨hE, rfl⟩ | ⟨hE, rfl⟩
    · refine vx_catch (own := RL) (name := "java/lang/IndexOutOfBoundsException") hown [] ⟨0, 13, 16, 19⟩ [] hTab (fun z h => absurd h List.not_mem_nil) (by decide) (by decide) (hts _ (List.mem_cons_of_mem _ mw604)) (va_Nw.use rfl hL.2.2.1) hce hcv hcl ?_
      refine lv_astore (lv' := [(5, .ref q9), (0, .ref (q 0)), (1, .int (iZ z1)), (2, .int (iZ z2)), (3, .int (iZ mm)), (4, .ref o)]) hx hb dL_leafOfRound_16 hl (by decide) rfl (fun ls hl => ?_)
      refine lv_iconst (v := iZ 1) hx hb dL_leafOfRound_18 rfl ?_
      refine W.widen (k := 2) (n := 12) (Nat.le_of_ble_eq_true rfl) (Nat.le_of_ble_eq_true rfl) ?_
      exact W.iret (v := iZ 1) hx hb hr (fun t ht hW => ⟨⟨congrArg (fun z : Int => Outcome.returned (some (Value.int (iZ z)))) (show 1 = ex2 (!inb z1 0 3 || !inb z2 0 3) (false) from hE.symm), by rw [ht]; exact ⟨gX_cast hG9 (if_neg (by rw [hE]; decide)).symm, sn, sv, fun z => absurd z (by rw [hE]; decide), hO8⟩⟩, hS.F ht⟩) hS.2.2 dL_leafOfRound_19 hlocks
    · exact absurd hE ex2_no2
  obtain ⟨tb1, tn1, tm1, htn1, hfit1, htm1, hP1⟩ := hG1
  have hPO := hP1.app (hO.kept (H1 := H1) (fun i p hp => hk9 _ (hO i p hp).lt (by match i, hp with | 0, hp => cases hp; exact hno (hO 0 _ rfl).lt | n + 1, hp => cases hp)))
  generalize H1 = H at hPO hS ⊢
  clear hk9 hy9
  refine kz_w32 ?_
  refine kz_i2l hx hb (w32_rng _) dL_leafOfRound_9 ?_
  refine va_putN (D := (dC, dI)) (ci := 5) (v := .long (lZ ((w32 (1 + mm % 12))))) (ty := .long) (C := RX2) (T := TX2) (N := 2) hx hb hts (fun w h => List.mem_cons_of_mem _ (gF_1_in h)) tyX2 tyX2_ok nmX2 hown hM.1 hPO (kXO_D hq ho9) hS 9 rfl rfl 0 (by decide) (va_Nw.use rfl hL.1) (fun _ h9 => h9) rfl (by decide +kernel) rfl rfl (Nat.le_of_ble_eq_true rfl) dL_leafOfRound_10 (fun H locs hPO hD hS => ?_)
  refine lv_goto (tgt := 20) hx hb dL_leafOfRound_13 (by decide) ?_
  refine lv_iconst (v := iZ 0) hx hb dL_leafOfRound_20 rfl ?_
  refine W.widen (k := 2) (n := 12) (Nat.le_of_ble_eq_true rfl) (Nat.le_of_ble_eq_true rfl) ?_
  exact W.iret (v := iZ 0) hx hb hr (fun t ht hW => ⟨⟨congrArg (fun z : Int => Outcome.returned (some (Value.int (iZ z)))) (show 0 = ex2 (!inb z1 0 3 || !inb z2 0 3) (false) from hE.symm), by rw [ht]; exact ⟨gX_cast ⟨tb1, tn1, tm1, htn1, hfit1, htm1, va_Pl (a := kX q dA (sU (sU σ 0 z1.toNat (σ 2 (z2.toNat))) 1 z1.toNat (1 + mm % 12)) tb1 (nI tn1) tm1) hPO⟩ (if_pos hE).symm, _, _, fun _ => rfl, va_Pr (a := kX q dA (sU (sU σ 0 z1.toNat (σ 2 (z2.toNat))) 1 z1.toNat (1 + mm % 12)) tb1 (nI tn1) tm1) hPO⟩⟩, hS.F ht⟩) hS.2.2 dL_leafOfRound_21 hlocks

abbrev ww_L_leafOfDay : List Cond := .codeWith yL_leafOfDay cL_leafOfDay 5 (some .int) [(0, 11, 14, 19)] :: gT
set_option maxHeartbeats 4000000 in
set_option maxRecDepth 100000 in
theorem c_L_leafOfDay (l : Launch) (hst : l.stackTraces = false) (dC : Nat → ClassId) (dI : Nat → Nat → Nat) (dA : Nat → ClassId) (k : Nat → Nat) (q : Nat → Nat) (σ : Nat → Nat → Int) (H0 : Heap) (hG : gX dC dI dA q σ H0) (hOK : kOK σ) (hq : kQI q k) (o : Nat) (sn : Int) (sv : Value) (hO : va_P (dC, dI) vwCl [(o, .inr (5, [.long (lZ sn), sv]))] H0) (hko : k 0 ≤ o) (ho9 : ∀ i : Nat, i < 9 → q i ≠ o) (z1 : Int) (z2 : Int) (rz1 : -2147483648 ≤ z1 ∧ z1 < 2147483648) (rz2 : -2147483648 ≤ z2 ∧ z2 < 2147483648) : Met l yL_leafOfDay ww_L_leafOfDay ({ frames := 10, cells := 2, slots := 12, locals := 342 }) (va_Pc [.ref (q 0), .int (iZ z1), .int (iZ z2), .ref o] (fun U => U.heap = H0 ∧ kMJ dC dI dA k U ∧ kL U)) (kQ2 (some (.int (iZ (ex2 (!inb z1 0 3 || !inb z2 0 3) (false))))) (fun H => gX dC dI dA q (if ex2 (!inb z1 0 3 || !inb z2 0 3) (false) = 0 then (sU (sU σ 0 z1.toNat (σ 5 (z2.toNat))) 1 z1.toNat (σ 6 (z2.toNat))) else σ) H ∧ gO dC dI o (fun n => ex2 (!inb z1 0 3 || !inb z2 0 3) (false) = 0 → n = w32 (mlen (leap (σ 5 (z2.toNat))) (σ 6 (z2.toNat)))) H) (kAO q o H0.size)) 2 12 (kAO q o H0.size) := by
  refine k_ofWH (cc := cL_leafOfDay) (maxL := 5) (ret := (some .int)) (hh := [(0, 11, 14, 19)]) (by decide) rfl ?_
  intro p e s m args below meth c s₁ B hml hv
  obtain ⟨rfl, hH, hMJ, hL⟩ := hv
  subst hH
  have hM := hMJ.1
  have hAN : ∀ a, kAO q o s.heap.size a → k 0 ≤ a := kAO_N hq hko hM.2.1.1
  have hS : va_S (kAO q o s.heap.size) s.heap s.heap [] := va_S.rf
  have hno : o < s.heap.size → ¬ kA q s.heap.size o := fun h z => z.elim (fun ⟨i, hi, e9⟩ => ho9 i hi e9.symm) (fun y => absurd h (Nat.not_lt.mpr y))
  obtain ⟨tb, tn, tm, htn, hfit, htm, hPx⟩ := id hG
  have hx := B.exec
  have hb := B.bytes
  have hr := B.returns
  have hts := atoms_spec (ws := ww_L_leafOfDay) B.pre
  have hown : s.vm.findClass RL = some m.cls := findClass_of_methodNamed B.named
  have hlocks := B.notSynchronized
  have hl := lv_entry ([.ref (q 0), .int (iZ z1), .int (iZ z2), .ref o]) (n := 5) (Nat.le_of_ble_eq_true rfl)
  rw [lg_entry_eq]
  generalize (lg_sl ([.ref (q 0), .int (iZ z1), .int (iZ z2), .ref o]) ++ List.replicate (5 - (lg_sl ([.ref (q 0), .int (iZ z1), .int (iZ z2), .ref o])).length) Slot.unset).toArray = ls at hl ⊢
  have hl : lv_has ls 5 [(0, .ref (q 0)), (1, .int (iZ z1)), (2, .int (iZ z2)), (3, .ref o)] := hl
  have hTab := vx_table (x := yL_leafOfDay) B (hts _ List.mem_cons_self)
  refine lv_aload_n hx hb dL_leafOfDay_0 rfl (lv_at hl 3 rfl) ?_
  refine lv_aload_n hx hb dL_leafOfDay_1 rfl (lv_at hl 0 rfl) ?_
  refine lv_iload_n hx hb dL_leafOfDay_2 rfl (lv_at hl 1 rfl) ?_
  refine lv_iload_n hx hb dL_leafOfDay_3 rfl (lv_at hl 2 rfl) ?_
  refine kcxc (vx_runV (As := [.int (iZ z1), .int (iZ z2)]) (rest := [.ref o]) ⟨hx, hb, hml, hown, hts⟩ (c_X1_leafOfDay l hst dC dI dA k q σ _ hG hOK hq z1 z2 rz1 rz2) (cwV 2 hts (kg_V mw718 mw719 mw720 mw42 rfl mw721) rfl rfl rfl hdV_X1_leafOfDay ⟨Nat.le_of_ble_eq_true rfl, Nat.le_of_ble_eq_true rfl⟩) ⟨fun a U g mk q => ⟨q.1, q.2.1, kM_call q.2.2⟩, va_recv hM.1 hPx (ci := 4) (q0 := 0) rfl rfl, fun U hU hW => ⟨rfl, hU, kM_kept hM hS hAN hU hW⟩⟩ rfl rfl hl.1 rfl (lv_room (Nat.le_of_ble_eq_true rfl)) dL_leafOfDay_4 ⟨Nat.le_of_ble_eq_true rfl, Nat.le_of_ble_eq_true rfl⟩) hS (fun a _ h => Or.inl h) (fun a h => Or.inl h) (fun E ce q9 H1 locs hE hy9 hk9 hS hce hcv hcl => ?_) (fun H1 locs hG1 hE hy9 hk9 hS => ?_)
  · have hG9 : gX dC dI dA q σ H1 := gX_kept hG (fun i _ h => hk9 _ h)
    have hO8 := hO.kept (H1 := H1) (fun i p hp => hk9 _ (hO i p hp).lt)
    rcases hE with ⟨hE, rfl⟩ | ⟨hE, rfl⟩
    · refine vx_catch (own := RL) (name := "java/lang/IndexOutOfBoundsException") hown [] ⟨0, 11, 14, 19⟩ [] hTab (fun z h => absurd h List.not_mem_nil) (by decide) (by decide) (hts _ (List.mem_cons_of_mem _ mw604)) (va_Nw.use rfl hL.2.2.1) hce hcv hcl ?_
      refine lv_astore (lv' := [(4, .ref q9), (0, .ref (q 0)), (1, .int (iZ z1)), (2, .int (iZ z2)), (3, .ref o)]) hx hb dL_leafOfDay_14 hl (by decide) rfl (fun ls hl => ?_)
      refine lv_iconst (v := iZ 1) hx hb dL_leafOfDay_16 rfl ?_
      refine W.widen (k := 2) (n := 12) (Nat.le_of_ble_eq_true rfl) (Nat.le_of_ble_eq_true rfl) ?_
      exact W.iret (v := iZ 1) hx hb hr (fun t ht hW => ⟨⟨congrArg (fun z : Int => Outcome.returned (some (Value.int (iZ z)))) (show 1 = ex2 (!inb z1 0 3 || !inb z2 0 3) (false) from hE.symm), by rw [ht]; exact ⟨gX_cast hG9 (if_neg (by rw [hE]; decide)).symm, sn, sv, fun z => absurd z (by rw [hE]; decide), hO8⟩⟩, hS.F ht⟩) hS.2.2 dL_leafOfDay_17 hlocks
    · exact absurd hE ex2_no2
  obtain ⟨tb1, tn1, tm1, htn1, hfit1, htm1, hP1⟩ := hG1
  have hPO := hP1.app (hO.kept (H1 := H1) (fun i p hp => hk9 _ (hO i p hp).lt (by match i, hp with | 0, hp => cases hp; exact hno (hO 0 _ rfl).lt | n + 1, hp => cases hp)))
  generalize H1 = H at hPO hS ⊢
  clear hk9 hy9
  refine kz_w32 ?_
  refine kz_i2l hx hb (w32_rng _) dL_leafOfDay_7 ?_
  refine va_putN (D := (dC, dI)) (ci := 5) (v := .long (lZ ((w32 (mlen (leap (σ 5 (z2.toNat))) (σ 6 (z2.toNat))))))) (ty := .long) (C := RX2) (T := TX2) (N := 2) hx hb hts (fun w h => List.mem_cons_of_mem _ (gF_1_in h)) tyX2 tyX2_ok nmX2 hown hM.1 hPO (kXO_D hq ho9) hS 9 rfl rfl 0 (by decide) (va_Nw.use rfl hL.1) (fun _ h9 => h9) rfl (by decide +kernel) rfl rfl (Nat.le_of_ble_eq_true rfl) dL_leafOfDay_8 (fun H locs hPO hD hS => ?_)
  refine lv_goto (tgt := 18) hx hb dL_leafOfDay_11 (by decide) ?_
  refine lv_iconst (v := iZ 0) hx hb dL_leafOfDay_18 rfl ?_
  refine W.widen (k := 2) (n := 12) (Nat.le_of_ble_eq_true rfl) (Nat.le_of_ble_eq_true rfl) ?_
  exact W.iret (v := iZ 0) hx hb hr (fun t ht hW => ⟨⟨congrArg (fun z : Int => Outcome.returned (some (Value.int (iZ z)))) (show 0 = ex2 (!inb z1 0 3 || !inb z2 0 3) (false) from hE.symm), by rw [ht]; exact ⟨gX_cast ⟨tb1, tn1, tm1, htn1, hfit1, htm1, va_Pl (a := kX q dA (sU (sU σ 0 z1.toNat (σ 5 (z2.toNat))) 1 z1.toNat (σ 6 (z2.toNat))) tb1 (nI tn1) tm1) hPO⟩ (if_pos hE).symm, _, _, fun _ => rfl, va_Pr (a := kX q dA (sU (sU σ 0 z1.toNat (σ 5 (z2.toNat))) 1 z1.toNat (σ 6 (z2.toNat))) tb1 (nI tn1) tm1) hPO⟩⟩, hS.F ht⟩) hS.2.2 dL_leafOfDay_19 hlocks

abbrev ww_L_leafLike : List Cond := .codeWith yL_leafLike cL_leafLike 5 (some .int) [(0, 11, 14, 19)] :: gT
set_option maxHeartbeats 4000000 in
set_option maxRecDepth 100000 in
theorem c_L_leafLike (l : Launch) (hst : l.stackTraces = false) (dC : Nat → ClassId) (dI : Nat → Nat → Nat) (dA : Nat → ClassId) (k : Nat → Nat) (q : Nat → Nat) (σ : Nat → Nat → Int) (H0 : Heap) (hG : gX dC dI dA q σ H0) (hOK : kOK σ) (hq : kQI q k) (o : Nat) (sn : Int) (sv : Value) (hO : va_P (dC, dI) vwCl [(o, .inr (5, [.long (lZ sn), sv]))] H0) (hko : k 0 ≤ o) (ho9 : ∀ i : Nat, i < 9 → q i ≠ o) (z1 : Int) (z2 : Int) (rz1 : -2147483648 ≤ z1 ∧ z1 < 2147483648) (rz2 : -2147483648 ≤ z2 ∧ z2 < 2147483648) : Met l yL_leafLike ww_L_leafLike ({ frames := 10, cells := 2, slots := 12, locals := 343 }) (va_Pc [.ref (q 0), .int (iZ z1), .int (iZ z2), .ref o] (fun U => U.heap = H0 ∧ kMJ dC dI dA k U ∧ kL U)) (kQ2 (some (.int (iZ (ex2 (!inb z1 0 3 || !inb z2 0 3) (false))))) (fun H => gX dC dI dA q (if ex2 (!inb z1 0 3 || !inb z2 0 3) (false) = 0 then (sU (sU σ 0 z1.toNat (σ 0 (z2.toNat))) 1 z1.toNat (σ 1 (z2.toNat))) else σ) H ∧ gO dC dI o (fun n => ex2 (!inb z1 0 3 || !inb z2 0 3) (false) = 0 → n = w32 (bZ (decide (σ 0 (z1.toNat) = σ 0 (z2.toNat) ∧ σ 1 (z1.toNat) = σ 1 (z2.toNat))))) H) (kAO q o H0.size)) 2 12 (kAO q o H0.size) := by
  refine k_ofWH (cc := cL_leafLike) (maxL := 5) (ret := (some .int)) (hh := [(0, 11, 14, 19)]) (by decide) rfl ?_
  intro p e s m args below meth c s₁ B hml hv
  obtain ⟨rfl, hH, hMJ, hL⟩ := hv
  subst hH
  have hM := hMJ.1
  have hAN : ∀ a, kAO q o s.heap.size a → k 0 ≤ a := kAO_N hq hko hM.2.1.1
  have hS : va_S (kAO q o s.heap.size) s.heap s.heap [] := va_S.rf
  have hno : o < s.heap.size → ¬ kA q s.heap.size o := fun h z => z.elim (fun ⟨i, hi, e9⟩ => ho9 i hi e9.symm) (fun y => absurd h (Nat.not_lt.mpr y))
  obtain ⟨tb, tn, tm, htn, hfit, htm, hPx⟩ := id hG
  have hx := B.exec
  have hb := B.bytes
  have hr := B.returns
  have hts := atoms_spec (ws := ww_L_leafLike) B.pre
  have hown : s.vm.findClass RL = some m.cls := findClass_of_methodNamed B.named
  have hlocks := B.notSynchronized
  have hl := lv_entry ([.ref (q 0), .int (iZ z1), .int (iZ z2), .ref o]) (n := 5) (Nat.le_of_ble_eq_true rfl)
  rw [lg_entry_eq]
  generalize (lg_sl ([.ref (q 0), .int (iZ z1), .int (iZ z2), .ref o]) ++ List.replicate (5 - (lg_sl ([.ref (q 0), .int (iZ z1), .int (iZ z2), .ref o])).length) Slot.unset).toArray = ls at hl ⊢
  have hl : lv_has ls 5 [(0, .ref (q 0)), (1, .int (iZ z1)), (2, .int (iZ z2)), (3, .ref o)] := hl
  have hTab := vx_table (x := yL_leafLike) B (hts _ List.mem_cons_self)
  refine lv_aload_n hx hb dL_leafLike_0 rfl (lv_at hl 3 rfl) ?_
  refine lv_aload_n hx hb dL_leafLike_1 rfl (lv_at hl 0 rfl) ?_
  refine lv_iload_n hx hb dL_leafLike_2 rfl (lv_at hl 1 rfl) ?_
  refine lv_iload_n hx hb dL_leafLike_3 rfl (lv_at hl 2 rfl) ?_
  refine kcxc (vx_runV (As := [.int (iZ z1), .int (iZ z2)]) (rest := [.ref o]) ⟨hx, hb, hml, hown, hts⟩ (c_X1_leafLike l hst dC dI dA k q σ _ hG hOK hq z1 z2 rz1 rz2) (cwV 2 hts (kg_V mw725 mw726 mw727 mw42 rfl mw728) rfl rfl rfl hdV_X1_leafLike ⟨Nat.le_of_ble_eq_true rfl, Nat.le_of_ble_eq_true rfl⟩) ⟨fun a U g mk q => ⟨q.1, q.2.1, kM_call q.2.2⟩, va_recv hM.1 hPx (ci := 4) (q0 := 0) rfl rfl, fun U hU hW => ⟨rfl, hU, kM_kept hM hS hAN hU hW⟩⟩ rfl rfl hl.1 rfl (lv_room (Nat.le_of_ble_eq_true rfl)) dL_leafLike_4 ⟨Nat.le_of_ble_eq_true rfl, Nat.le_of_ble_eq_true rfl⟩) hS (fun a _ h => Or.inl h) (fun a h => Or.inl h) (fun E ce q9 H1 locs hE hy9 hk9 hS hce hcv hcl => ?_) (fun H1 locs hG1 hE hy9 hk9 hS => ?_)
  · have hG9 : gX dC dI dA q σ H1 := gX_kept hG (fun i _ h => hk9 _ h)
    have hO8 := hO.kept (H1 := H1) (fun i p hp => hk9 _ (hO i p hp).lt)
    rcases hE with ⟨hE, rfl⟩ | ⟨hE, rfl⟩
    · refine vx_catch (own := RL) (name := "java/lang/IndexOutOfBoundsException") hown [] ⟨0, 11, 14, 19⟩ [] hTab (fun z h => absurd h List.not_mem_nil) (by decide) (by decide) (hts _ (List.mem_cons_of_mem _ mw604)) (va_Nw.use rfl hL.2.2.1) hce hcv hcl ?_
      refine lv_astore (lv' := [(4, .ref q9), (0, .ref (q 0)), (1, .int (iZ z1)), (2, .int (iZ z2)), (3, .ref o)]) hx hb dL_leafLike_14 hl (by decide) rfl (fun ls hl => ?_)
      refine lv_iconst (v := iZ 1) hx hb dL_leafLike_16 rfl ?_
      refine W.widen (k := 2) (n := 12) (Nat.le_of_ble_eq_true rfl) (Nat.le_of_ble_eq_true rfl) ?_
      exact W.iret (v := iZ 1) hx hb hr (fun t ht hW => ⟨⟨congrArg (fun z : Int => Outcome.returned (some (Value.int (iZ z)))) (show 1 = ex2 (!inb z1 0 3 || !inb z2 0 3) (false) from hE.symm), by rw [ht]; exact ⟨gX_cast hG9 (if_neg (by rw [hE]; decide)).symm, sn, sv, fun z => absurd z (by rw [hE]; decide), hO8⟩⟩, hS.F ht⟩) hS.2.2 dL_leafLike_17 hlocks
    · exact absurd hE ex2_no2
  obtain ⟨tb1, tn1, tm1, htn1, hfit1, htm1, hP1⟩ := hG1
  have hPO := hP1.app (hO.kept (H1 := H1) (fun i p hp => hk9 _ (hO i p hp).lt (by match i, hp with | 0, hp => cases hp; exact hno (hO 0 _ rfl).lt | n + 1, hp => cases hp)))
  generalize H1 = H at hPO hS ⊢
  clear hk9 hy9
  refine kz_w32 ?_
  refine kz_i2l hx hb (w32_rng _) dL_leafLike_7 ?_
  refine va_putN (D := (dC, dI)) (ci := 5) (v := .long (lZ ((w32 (bZ (decide (σ 0 (z1.toNat) = σ 0 (z2.toNat) ∧ σ 1 (z1.toNat) = σ 1 (z2.toNat)))))))) (ty := .long) (C := RX2) (T := TX2) (N := 2) hx hb hts (fun w h => List.mem_cons_of_mem _ (gF_1_in h)) tyX2 tyX2_ok nmX2 hown hM.1 hPO (kXO_D hq ho9) hS 9 rfl rfl 0 (by decide) (va_Nw.use rfl hL.1) (fun _ h9 => h9) rfl (by decide +kernel) rfl rfl (Nat.le_of_ble_eq_true rfl) dL_leafLike_8 (fun H locs hPO hD hS => ?_)
  refine lv_goto (tgt := 18) hx hb dL_leafLike_11 (by decide) ?_
  refine lv_iconst (v := iZ 0) hx hb dL_leafLike_18 rfl ?_
  refine W.widen (k := 2) (n := 12) (Nat.le_of_ble_eq_true rfl) (Nat.le_of_ble_eq_true rfl) ?_
  exact W.iret (v := iZ 0) hx hb hr (fun t ht hW => ⟨⟨congrArg (fun z : Int => Outcome.returned (some (Value.int (iZ z)))) (show 0 = ex2 (!inb z1 0 3 || !inb z2 0 3) (false) from hE.symm), by rw [ht]; exact ⟨gX_cast ⟨tb1, tn1, tm1, htn1, hfit1, htm1, va_Pl (a := kX q dA (sU (sU σ 0 z1.toNat (σ 0 (z2.toNat))) 1 z1.toNat (σ 1 (z2.toNat))) tb1 (nI tn1) tm1) hPO⟩ (if_pos hE).symm, _, _, fun _ => rfl, va_Pr (a := kX q dA (sU (sU σ 0 z1.toNat (σ 0 (z2.toNat))) 1 z1.toNat (σ 1 (z2.toNat))) tb1 (nI tn1) tm1) hPO⟩⟩, hS.F ht⟩) hS.2.2 dL_leafLike_19 hlocks

abbrev ww_L_year : List Cond := .codeWith yL_year cL_year 5 (some .int) [(0, 11, 14, 19), (0, 11, 18, 21)] :: gT
set_option maxHeartbeats 4000000 in
set_option maxRecDepth 100000 in
theorem c_L_year (l : Launch) (hst : l.stackTraces = false) (dC : Nat → ClassId) (dI : Nat → Nat → Nat) (dA : Nat → ClassId) (k : Nat → Nat) (q : Nat → Nat) (σ : Nat → Nat → Int) (H0 : Heap) (hG : gX dC dI dA q σ H0) (hOK : kOK σ) (hq : kQI q k) (o : Nat) (sn : Int) (sv : Value) (hO : va_P (dC, dI) vwCl [(o, .inr (5, [.long (lZ sn), sv]))] H0) (hko : k 0 ≤ o) (ho9 : ∀ i : Nat, i < 9 → q i ≠ o) (z1 : Int) (yy : Int) (rz1 : -2147483648 ≤ z1 ∧ z1 < 2147483648) (ryy : -2147483648 ≤ yy ∧ yy < 2147483648) : Met l yL_year ww_L_year ({ frames := 11, cells := 2, slots := 12, locals := 364 }) (va_Pc [.ref (q 0), .int (iZ z1), .int (iZ yy), .ref o] (fun U => U.heap = H0 ∧ kMJ dC dI dA k U ∧ kL U)) (kQ2 (some (.int (iZ (ex2 (!inb z1 0 3) (!inb yy (-999999999) 999999999))))) (fun H => gX dC dI dA q (if ex2 (!inb z1 0 3) (!inb yy (-999999999) 999999999) = 0 then (sU σ 2 z1.toNat yy) else σ) H ∧ gO dC dI o (fun n => ex2 (!inb z1 0 3) (!inb yy (-999999999) 999999999) = 0 → n = w32 (ylen yy)) H) (kAO q o H0.size)) 2 12 (kAO q o H0.size) := by
  refine k_ofWH (cc := cL_year) (maxL := 5) (ret := (some .int)) (hh := [(0, 11, 14, 19), (0, 11, 18, 21)]) (by decide) rfl ?_
  intro p e s m args below meth c s₁ B hml hv
  obtain ⟨rfl, hH, hMJ, hL⟩ := hv
  subst hH
  have hM := hMJ.1
  have hAN : ∀ a, kAO q o s.heap.size a → k 0 ≤ a := kAO_N hq hko hM.2.1.1
  have hS : va_S (kAO q o s.heap.size) s.heap s.heap [] := va_S.rf
  have hno : o < s.heap.size → ¬ kA q s.heap.size o := fun h z => z.elim (fun ⟨i, hi, e9⟩ => ho9 i hi e9.symm) (fun y => absurd h (Nat.not_lt.mpr y))
  obtain ⟨tb, tn, tm, htn, hfit, htm, hPx⟩ := id hG
  have hx := B.exec
  have hb := B.bytes
  have hr := B.returns
  have hts := atoms_spec (ws := ww_L_year) B.pre
  have hown : s.vm.findClass RL = some m.cls := findClass_of_methodNamed B.named
  have hlocks := B.notSynchronized
  have hl := lv_entry ([.ref (q 0), .int (iZ z1), .int (iZ yy), .ref o]) (n := 5) (Nat.le_of_ble_eq_true rfl)
  rw [lg_entry_eq]
  generalize (lg_sl ([.ref (q 0), .int (iZ z1), .int (iZ yy), .ref o]) ++ List.replicate (5 - (lg_sl ([.ref (q 0), .int (iZ z1), .int (iZ yy), .ref o])).length) Slot.unset).toArray = ls at hl ⊢
  have hl : lv_has ls 5 [(0, .ref (q 0)), (1, .int (iZ z1)), (2, .int (iZ yy)), (3, .ref o)] := hl
  have hTab := vx_table (x := yL_year) B (hts _ List.mem_cons_self)
  refine lv_aload_n hx hb dL_year_0 rfl (lv_at hl 3 rfl) ?_
  refine lv_aload_n hx hb dL_year_1 rfl (lv_at hl 0 rfl) ?_
  refine lv_iload_n hx hb dL_year_2 rfl (lv_at hl 1 rfl) ?_
  refine lv_iload_n hx hb dL_year_3 rfl (lv_at hl 2 rfl) ?_
  refine kcxc (vx_runV (As := [.int (iZ z1), .int (iZ yy)]) (rest := [.ref o]) ⟨hx, hb, hml, hown, hts⟩ (c_X1_year l hst dC dI dA k q σ _ hG hOK hq z1 yy rz1 ryy) (cwV 2 hts (kg_V mw732 mw733 mw734 mw42 rfl mw735) rfl rfl rfl hdV_X1_year ⟨Nat.le_of_ble_eq_true rfl, Nat.le_of_ble_eq_true rfl⟩) ⟨fun a U g mk q => ⟨q.1, q.2.1, kM_call q.2.2⟩, va_recv hM.1 hPx (ci := 4) (q0 := 0) rfl rfl, fun U hU hW => ⟨rfl, hU, kM_kept hM hS hAN hU hW⟩⟩ rfl rfl hl.1 rfl (lv_room (Nat.le_of_ble_eq_true rfl)) dL_year_4 ⟨Nat.le_of_ble_eq_true rfl, Nat.le_of_ble_eq_true rfl⟩) hS (fun a _ h => Or.inl h) (fun a h => Or.inl h) (fun E ce q9 H1 locs hE hy9 hk9 hS hce hcv hcl => ?_) (fun H1 locs hG1 hE hy9 hk9 hS => ?_)
  · have hG9 : gX dC dI dA q σ H1 := gX_kept hG (fun i _ h => hk9 _ h)
    have hO8 := hO.kept (H1 := H1) (fun i p hp => hk9 _ (hO i p hp).lt)
    rcases hE with ⟨hE, rfl⟩ | ⟨hE, rfl⟩
    · refine vx_catch (own := RL) (name := "java/lang/IndexOutOfBoundsException") hown [] ⟨0, 11, 14, 19⟩ [⟨0, 11, 18, 21⟩] hTab (fun z h => absurd h List.not_mem_nil) (by decide) (by decide) (hts _ (List.mem_cons_of_mem _ mw604)) (va_Nw.use rfl hL.2.2.1) hce hcv hcl ?_
      refine lv_astore (lv' := [(4, .ref q9), (0, .ref (q 0)), (1, .int (iZ z1)), (2, .int (iZ yy)), (3, .ref o)]) hx hb dL_year_14 hl (by decide) rfl (fun ls hl => ?_)
      refine lv_iconst (v := iZ 1) hx hb dL_year_16 rfl ?_
      refine W.widen (k := 2) (n := 12) (Nat.le_of_ble_eq_true rfl) (Nat.le_of_ble_eq_true rfl) ?_
      exact W.iret (v := iZ 1) hx hb hr (fun t ht hW => ⟨⟨congrArg (fun z : Int => Outcome.returned (some (Value.int (iZ z)))) (show 1 = ex2 (!inb z1 0 3) (!inb yy (-999999999) 999999999) from hE.symm), by rw [ht]; exact ⟨gX_cast hG9 (if_neg (by rw [hE]; decide)).symm, sn, sv, fun z => absurd z (by rw [hE]; decide), hO8⟩⟩, hS.F ht⟩) hS.2.2 dL_year_17 hlocks
    · refine vx_catch (own := RL) (name := "java/lang/IllegalArgumentException") hown [⟨0, 11, 14, 19⟩] ⟨0, 11, 18, 21⟩ [] hTab (fun z h => by cases List.mem_singleton.mp h; exact Or.inr ⟨by decide, "java/lang/IndexOutOfBoundsException", (hts _ (List.mem_cons_of_mem _ mw604)), hM.2.1.2.2.2.2.2.2.2.2.2.2.2⟩) (by decide) (by decide) (hts _ (List.mem_cons_of_mem _ mw605)) (va_Nw.use rfl hL.2.2.2) hce hcv hcl ?_
      refine lv_astore (lv' := [(4, .ref q9), (0, .ref (q 0)), (1, .int (iZ z1)), (2, .int (iZ yy)), (3, .ref o)]) hx hb dL_year_18 hl (by decide) rfl (fun ls hl => ?_)
      refine lv_iconst (v := iZ 2) hx hb dL_year_20 rfl ?_
      refine W.widen (k := 2) (n := 12) (Nat.le_of_ble_eq_true rfl) (Nat.le_of_ble_eq_true rfl) ?_
      exact W.iret (v := iZ 2) hx hb hr (fun t ht hW => ⟨⟨congrArg (fun z : Int => Outcome.returned (some (Value.int (iZ z)))) (show 2 = ex2 (!inb z1 0 3) (!inb yy (-999999999) 999999999) from hE.symm), by rw [ht]; exact ⟨gX_cast hG9 (if_neg (by rw [hE]; decide)).symm, sn, sv, fun z => absurd z (by rw [hE]; decide), hO8⟩⟩, hS.F ht⟩) hS.2.2 dL_year_21 hlocks
  obtain ⟨tb1, tn1, tm1, htn1, hfit1, htm1, hP1⟩ := hG1
  have hPO := hP1.app (hO.kept (H1 := H1) (fun i p hp => hk9 _ (hO i p hp).lt (by match i, hp with | 0, hp => cases hp; exact hno (hO 0 _ rfl).lt | n + 1, hp => cases hp)))
  generalize H1 = H at hPO hS ⊢
  clear hk9 hy9
  refine kz_w32 ?_
  refine kz_i2l hx hb (w32_rng _) dL_year_7 ?_
  refine va_putN (D := (dC, dI)) (ci := 5) (v := .long (lZ ((w32 (ylen yy))))) (ty := .long) (C := RX2) (T := TX2) (N := 2) hx hb hts (fun w h => List.mem_cons_of_mem _ (gF_1_in h)) tyX2 tyX2_ok nmX2 hown hM.1 hPO (kXO_D hq ho9) hS 9 rfl rfl 0 (by decide) (va_Nw.use rfl hL.1) (fun _ h9 => h9) rfl (by decide +kernel) rfl rfl (Nat.le_of_ble_eq_true rfl) dL_year_8 (fun H locs hPO hD hS => ?_)
  refine lv_goto (tgt := 22) hx hb dL_year_11 (by decide) ?_
  refine lv_iconst (v := iZ 0) hx hb dL_year_22 rfl ?_
  refine W.widen (k := 2) (n := 12) (Nat.le_of_ble_eq_true rfl) (Nat.le_of_ble_eq_true rfl) ?_
  exact W.iret (v := iZ 0) hx hb hr (fun t ht hW => ⟨⟨congrArg (fun z : Int => Outcome.returned (some (Value.int (iZ z)))) (show 0 = ex2 (!inb z1 0 3) (!inb yy (-999999999) 999999999) from hE.symm), by rw [ht]; exact ⟨gX_cast ⟨tb1, tn1, tm1, htn1, hfit1, htm1, va_Pl (a := kX q dA (sU σ 2 z1.toNat yy) tb1 (nI tn1) tm1) hPO⟩ (if_pos hE).symm, _, _, fun _ => rfl, va_Pr (a := kX q dA (sU σ 2 z1.toNat yy) tb1 (nI tn1) tm1) hPO⟩⟩, hS.F ht⟩) hS.2.2 dL_year_23 hlocks

abbrev ww_L_later : List Cond := .codeWith yL_later cL_later 6 (some .int) [(0, 13, 16, 19)] :: gT
set_option maxHeartbeats 4000000 in
set_option maxRecDepth 100000 in
theorem c_L_later (l : Launch) (hst : l.stackTraces = false) (dC : Nat → ClassId) (dI : Nat → Nat → Nat) (dA : Nat → ClassId) (k : Nat → Nat) (q : Nat → Nat) (σ : Nat → Nat → Int) (H0 : Heap) (hG : gX dC dI dA q σ H0) (hOK : kOK σ) (hq : kQI q k) (o : Nat) (sn : Int) (sv : Value) (hO : va_P (dC, dI) vwCl [(o, .inr (5, [.long (lZ sn), sv]))] H0) (hko : k 0 ≤ o) (ho9 : ∀ i : Nat, i < 9 → q i ≠ o) (z1 : Int) (mm : Int) (bb : Bool) (rz1 : -2147483648 ≤ z1 ∧ z1 < 2147483648) (rmm : -2147483648 ≤ mm ∧ mm < 2147483648) : Met l yL_later ww_L_later ({ frames := 10, cells := 1, slots := 6, locals := 343 }) (va_Pc [.ref (q 0), .int (iZ z1), .int (iZ mm), .int (iZ (bZ (bb))), .ref o] (fun U => U.heap = H0 ∧ kMJ dC dI dA k U ∧ kL U)) (kQ2 (some (.int (iZ (ex2 (!inb z1 0 3) (false))))) (fun H => gX dC dI dA q (if ex2 (!inb z1 0 3) (false) = 0 then (putYs σ (z1.toNat) (σ 2 (z1.toNat) + sgn mm bb)) else σ) H ∧ gO dC dI o (fun n => ex2 (!inb z1 0 3) (false) = 0 → n = w32 (putYr (σ 2 (z1.toNat) + sgn mm bb))) H) (kAO q o H0.size)) 1 6 (kAO q o H0.size) := by
  refine k_ofWH (cc := cL_later) (maxL := 6) (ret := (some .int)) (hh := [(0, 13, 16, 19)]) (by decide) rfl ?_
  intro p e s m args below meth c s₁ B hml hv
  obtain ⟨rfl, hH, hMJ, hL⟩ := hv
  subst hH
  have hM := hMJ.1
  have hAN : ∀ a, kAO q o s.heap.size a → k 0 ≤ a := kAO_N hq hko hM.2.1.1
  have hS : va_S (kAO q o s.heap.size) s.heap s.heap [] := va_S.rf
  have hno : o < s.heap.size → ¬ kA q s.heap.size o := fun h z => z.elim (fun ⟨i, hi, e9⟩ => ho9 i hi e9.symm) (fun y => absurd h (Nat.not_lt.mpr y))
  obtain ⟨tb, tn, tm, htn, hfit, htm, hPx⟩ := id hG
  have hx := B.exec
  have hb := B.bytes
  have hr := B.returns
  have hts := atoms_spec (ws := ww_L_later) B.pre
  have hown : s.vm.findClass RL = some m.cls := findClass_of_methodNamed B.named
  have hlocks := B.notSynchronized
  have hl := lv_entry ([.ref (q 0), .int (iZ z1), .int (iZ mm), .int (iZ (bZ (bb))), .ref o]) (n := 6) (Nat.le_of_ble_eq_true rfl)
  rw [lg_entry_eq]
  generalize (lg_sl ([.ref (q 0), .int (iZ z1), .int (iZ mm), .int (iZ (bZ (bb))), .ref o]) ++ List.replicate (6 - (lg_sl ([.ref (q 0), .int (iZ z1), .int (iZ mm), .int (iZ (bZ (bb))), .ref o])).length) Slot.unset).toArray = ls at hl ⊢
  have hl : lv_has ls 6 [(0, .ref (q 0)), (1, .int (iZ z1)), (2, .int (iZ mm)), (3, .int (iZ (bZ (bb)))), (4, .ref o)] := hl
  have hTab := vx_table (x := yL_later) B (hts _ List.mem_cons_self)
  refine lv_aload hx hb dL_later_0 (lv_at hl 4 rfl) ?_
  refine lv_aload_n hx hb dL_later_2 rfl (lv_at hl 0 rfl) ?_
  refine lv_iload_n hx hb dL_later_3 rfl (lv_at hl 1 rfl) ?_
  refine lv_iload_n hx hb dL_later_4 rfl (lv_at hl 2 rfl) ?_
  refine lv_iload_n hx hb dL_later_5 rfl (lv_at hl 3 rfl) ?_
  refine kcxc (vx_runV (As := [.int (iZ z1), .int (iZ mm), .int (iZ (bZ (bb)))]) (rest := [.ref o]) ⟨hx, hb, hml, hown, hts⟩ (c_X1_later l hst dC dI dA k q σ _ hG hOK hq z1 mm bb rz1 rmm) (cwV 3 hts (kg_V mw744 mw745 mw746 mw42 rfl mw747) rfl rfl rfl hdV_X1_later ⟨Nat.le_of_ble_eq_true rfl, Nat.le_of_ble_eq_true rfl⟩) ⟨fun a U g mk q => ⟨q.1, q.2.1, kM_call q.2.2⟩, va_recv hM.1 hPx (ci := 4) (q0 := 0) rfl rfl, fun U hU hW => ⟨rfl, hU, kM_kept hM hS hAN hU hW⟩⟩ rfl rfl hl.1 rfl (lv_room (Nat.le_of_ble_eq_true rfl)) dL_later_6 ⟨Nat.le_of_ble_eq_true rfl, Nat.le_of_ble_eq_true rfl⟩) hS (fun a _ h => Or.inl h) (fun a h => Or.inl h) (fun E ce q9 H1 locs hE hy9 hk9 hS hce hcv hcl => ?_) (fun H1 locs hG1 hE hy9 hk9 hS => ?_)
  · have hG9 : gX dC dI dA q σ H1 := gX_kept hG (fun i _ h => hk9 _ h)
    have hO8 := hO.kept (H1 := H1) (fun i p hp => hk9 _ (hO i p hp).lt)
    rcases hE with ⟨hE, rfl⟩ | ⟨hE, rfl⟩
    · refine vx_catch (own := RL) (name := "java/lang/IndexOutOfBoundsException") hown [] ⟨0, 13, 16, 19⟩ [] hTab (fun z h => absurd h List.not_mem_nil) (by decide) (by decide) (hts _ (List.mem_cons_of_mem _ mw604)) (va_Nw.use rfl hL.2.2.1) hce hcv hcl ?_
      refine lv_astore (lv' := [(5, .ref q9), (0, .ref (q 0)), (1, .int (iZ z1)), (2, .int (iZ mm)), (3, .int (iZ (bZ (bb)))), (4, .ref o)]) hx hb dL_later_16 hl (by decide) rfl (fun ls hl => ?_)
      refine lv_iconst (v := iZ 1) hx hb dL_later_18 rfl ?_
      refine W.widen (k := 1) (n := 6) (Nat.le_of_ble_eq_true rfl) (Nat.le_of_ble_eq_true rfl) ?_
      exact W.iret (v := iZ 1) hx hb hr (fun t ht hW => ⟨⟨congrArg (fun z : Int => Outcome.returned (some (Value.int (iZ z)))) (show 1 = ex2 (!inb z1 0 3) (false) from hE.symm), by rw [ht]; exact ⟨gX_cast hG9 (if_neg (by rw [hE]; decide)).symm, sn, sv, fun z => absurd z (by rw [hE]; decide), hO8⟩⟩, hS.F ht⟩) hS.2.2 dL_later_19 hlocks
    · exact absurd hE ex2_no2
  obtain ⟨tb1, tn1, tm1, htn1, hfit1, htm1, hP1⟩ := hG1
  have hPO := hP1.app (hO.kept (H1 := H1) (fun i p hp => hk9 _ (hO i p hp).lt (by match i, hp with | 0, hp => cases hp; exact hno (hO 0 _ rfl).lt | n + 1, hp => cases hp)))
  generalize H1 = H at hPO hS ⊢
  clear hk9 hy9
  refine kz_w32 ?_
  refine kz_i2l hx hb (w32_rng _) dL_later_9 ?_
  refine va_putN (D := (dC, dI)) (ci := 5) (v := .long (lZ ((w32 (putYr (σ 2 (z1.toNat) + sgn mm bb)))))) (ty := .long) (C := RX2) (T := TX2) (N := 2) hx hb hts (fun w h => List.mem_cons_of_mem _ (gF_1_in h)) tyX2 tyX2_ok nmX2 hown hM.1 hPO (kXO_D hq ho9) hS 9 rfl rfl 0 (by decide) (va_Nw.use rfl hL.1) (fun _ h9 => h9) rfl (by decide +kernel) rfl rfl (Nat.le_of_ble_eq_true rfl) dL_later_10 (fun H locs hPO hD hS => ?_)
  refine lv_goto (tgt := 20) hx hb dL_later_13 (by decide) ?_
  refine lv_iconst (v := iZ 0) hx hb dL_later_20 rfl ?_
  refine W.widen (k := 1) (n := 6) (Nat.le_of_ble_eq_true rfl) (Nat.le_of_ble_eq_true rfl) ?_
  exact W.iret (v := iZ 0) hx hb hr (fun t ht hW => ⟨⟨congrArg (fun z : Int => Outcome.returned (some (Value.int (iZ z)))) (show 0 = ex2 (!inb z1 0 3) (false) from hE.symm), by rw [ht]; exact ⟨gX_cast ⟨tb1, tn1, tm1, htn1, hfit1, htm1, va_Pl (a := kX q dA (putYs σ (z1.toNat) (σ 2 (z1.toNat) + sgn mm bb)) tb1 (nI tn1) tm1) hPO⟩ (if_pos hE).symm, _, _, fun _ => rfl, va_Pr (a := kX q dA (putYs σ (z1.toNat) (σ 2 (z1.toNat) + sgn mm bb)) tb1 (nI tn1) tm1) hPO⟩⟩, hS.F ht⟩) hS.2.2 dL_later_21 hlocks

abbrev ww_L_yearUnits : List Cond := .codeWith yL_yearUnits cL_yearUnits 7 (some .int) [(0, 15, 18, 19), (0, 15, 22, 21)] :: gT
set_option maxHeartbeats 4000000 in
set_option maxRecDepth 100000 in
theorem c_L_yearUnits (l : Launch) (hst : l.stackTraces = false) (dC : Nat → ClassId) (dI : Nat → Nat → Nat) (dA : Nat → ClassId) (k : Nat → Nat) (q : Nat → Nat) (σ : Nat → Nat → Int) (H0 : Heap) (hG : gX dC dI dA q σ H0) (hOK : kOK σ) (hq : kQI q k) (o : Nat) (sn : Int) (sv : Value) (hO : va_P (dC, dI) vwCl [(o, .inr (5, [.long (lZ sn), sv]))] H0) (hko : k 0 ≤ o) (ho9 : ∀ i : Nat, i < 9 → q i ≠ o) (z1 : Int) (uu : Int) (mm : Int) (bb : Bool) (rz1 : -2147483648 ≤ z1 ∧ z1 < 2147483648) (ruu : -2147483648 ≤ uu ∧ uu < 2147483648) (rmm : -2147483648 ≤ mm ∧ mm < 2147483648) : Met l yL_yearUnits ww_L_yearUnits ({ frames := 10, cells := 2, slots := 12, locals := 346 }) (va_Pc [.ref (q 0), .int (iZ z1), .int (iZ uu), .int (iZ mm), .int (iZ (bZ (bb))), .ref o] (fun U => U.heap = H0 ∧ kMJ dC dI dA k U ∧ kL U)) (kQ2 (some (.int (iZ (ex2 (!inb z1 0 3) (!inb uu 1 4))))) (fun H => gX dC dI dA q (if ex2 (!inb z1 0 3) (!inb uu 1 4) = 0 then (putYs σ (z1.toNat) (σ 2 (z1.toNat) + sgn (mm * yus uu) bb)) else σ) H ∧ gO dC dI o (fun n => ex2 (!inb z1 0 3) (!inb uu 1 4) = 0 → n = w32 (putYr (σ 2 (z1.toNat) + sgn (mm * yus uu) bb))) H) (kAO q o H0.size)) 2 12 (kAO q o H0.size) := by
  refine k_ofWH (cc := cL_yearUnits) (maxL := 7) (ret := (some .int)) (hh := [(0, 15, 18, 19), (0, 15, 22, 21)]) (by decide) rfl ?_
  intro p e s m args below meth c s₁ B hml hv
  obtain ⟨rfl, hH, hMJ, hL⟩ := hv
  subst hH
  have hM := hMJ.1
  have hAN : ∀ a, kAO q o s.heap.size a → k 0 ≤ a := kAO_N hq hko hM.2.1.1
  have hS : va_S (kAO q o s.heap.size) s.heap s.heap [] := va_S.rf
  have hno : o < s.heap.size → ¬ kA q s.heap.size o := fun h z => z.elim (fun ⟨i, hi, e9⟩ => ho9 i hi e9.symm) (fun y => absurd h (Nat.not_lt.mpr y))
  obtain ⟨tb, tn, tm, htn, hfit, htm, hPx⟩ := id hG
  have hx := B.exec
  have hb := B.bytes
  have hr := B.returns
  have hts := atoms_spec (ws := ww_L_yearUnits) B.pre
  have hown : s.vm.findClass RL = some m.cls := findClass_of_methodNamed B.named
  have hlocks := B.notSynchronized
  have hl := lv_entry ([.ref (q 0), .int (iZ z1), .int (iZ uu), .int (iZ mm), .int (iZ (bZ (bb))), .ref o]) (n := 7) (Nat.le_of_ble_eq_true rfl)
  rw [lg_entry_eq]
  generalize (lg_sl ([.ref (q 0), .int (iZ z1), .int (iZ uu), .int (iZ mm), .int (iZ (bZ (bb))), .ref o]) ++ List.replicate (7 - (lg_sl ([.ref (q 0), .int (iZ z1), .int (iZ uu), .int (iZ mm), .int (iZ (bZ (bb))), .ref o])).length) Slot.unset).toArray = ls at hl ⊢
  have hl : lv_has ls 7 [(0, .ref (q 0)), (1, .int (iZ z1)), (2, .int (iZ uu)), (3, .int (iZ mm)), (4, .int (iZ (bZ (bb)))), (5, .ref o)] := hl
  have hTab := vx_table (x := yL_yearUnits) B (hts _ List.mem_cons_self)
  refine lv_aload hx hb dL_yearUnits_0 (lv_at hl 5 rfl) ?_
  refine lv_aload_n hx hb dL_yearUnits_2 rfl (lv_at hl 0 rfl) ?_
  refine lv_iload_n hx hb dL_yearUnits_3 rfl (lv_at hl 1 rfl) ?_
  refine lv_iload_n hx hb dL_yearUnits_4 rfl (lv_at hl 2 rfl) ?_
  refine lv_iload_n hx hb dL_yearUnits_5 rfl (lv_at hl 3 rfl) ?_
  refine lv_iload hx hb dL_yearUnits_6 (lv_at hl 4 rfl) ?_
  refine kcxc (vx_runV (As := [.int (iZ z1), .int (iZ uu), .int (iZ mm), .int (iZ (bZ (bb)))]) (rest := [.ref o]) ⟨hx, hb, hml, hown, hts⟩ (c_X1_yearUnits l hst dC dI dA k q σ _ hG hOK hq z1 uu mm bb rz1 ruu rmm) (cwV 4 hts (kg_V mw754 mw755 mw756 mw42 rfl mw757) rfl rfl rfl hdV_X1_yearUnits ⟨Nat.le_of_ble_eq_true rfl, Nat.le_of_ble_eq_true rfl⟩) ⟨fun a U g mk q => ⟨q.1, q.2.1, kM_call q.2.2⟩, va_recv hM.1 hPx (ci := 4) (q0 := 0) rfl rfl, fun U hU hW => ⟨rfl, hU, kM_kept hM hS hAN hU hW⟩⟩ rfl rfl hl.1 rfl (lv_room (Nat.le_of_ble_eq_true rfl)) dL_yearUnits_8 ⟨Nat.le_of_ble_eq_true rfl, Nat.le_of_ble_eq_true rfl⟩) hS (fun a _ h => Or.inl h) (fun a h => Or.inl h) (fun E ce q9 H1 locs hE hy9 hk9 hS hce hcv hcl => ?_) (fun H1 locs hG1 hE hy9 hk9 hS => ?_)
  · have hG9 : gX dC dI dA q σ H1 := gX_kept hG (fun i _ h => hk9 _ h)
    have hO8 := hO.kept (H1 := H1) (fun i p hp => hk9 _ (hO i p hp).lt)
    rcases hE with ⟨hE, rfl⟩ | ⟨hE, rfl⟩
    · refine vx_catch (own := RL) (name := "java/lang/IndexOutOfBoundsException") hown [] ⟨0, 15, 18, 19⟩ [⟨0, 15, 22, 21⟩] hTab (fun z h => absurd h List.not_mem_nil) (by decide) (by decide) (hts _ (List.mem_cons_of_mem _ mw604)) (va_Nw.use rfl hL.2.2.1) hce hcv hcl ?_
      refine lv_astore (lv' := [(6, .ref q9), (0, .ref (q 0)), (1, .int (iZ z1)), (2, .int (iZ uu)), (3, .int (iZ mm)), (4, .int (iZ (bZ (bb)))), (5, .ref o)]) hx hb dL_yearUnits_18 hl (by decide) rfl (fun ls hl => ?_)
      refine lv_iconst (v := iZ 1) hx hb dL_yearUnits_20 rfl ?_
      refine W.widen (k := 2) (n := 12) (Nat.le_of_ble_eq_true rfl) (Nat.le_of_ble_eq_true rfl) ?_
      exact W.iret (v := iZ 1) hx hb hr (fun t ht hW => ⟨⟨congrArg (fun z : Int => Outcome.returned (some (Value.int (iZ z)))) (show 1 = ex2 (!inb z1 0 3) (!inb uu 1 4) from hE.symm), by rw [ht]; exact ⟨gX_cast hG9 (if_neg (by rw [hE]; decide)).symm, sn, sv, fun z => absurd z (by rw [hE]; decide), hO8⟩⟩, hS.F ht⟩) hS.2.2 dL_yearUnits_21 hlocks
    · refine vx_catch (own := RL) (name := "java/lang/IllegalArgumentException") hown [⟨0, 15, 18, 19⟩] ⟨0, 15, 22, 21⟩ [] hTab (fun z h => by cases List.mem_singleton.mp h; exact Or.inr ⟨by decide, "java/lang/IndexOutOfBoundsException", (hts _ (List.mem_cons_of_mem _ mw604)), hM.2.1.2.2.2.2.2.2.2.2.2.2.2⟩) (by decide) (by decide) (hts _ (List.mem_cons_of_mem _ mw605)) (va_Nw.use rfl hL.2.2.2) hce hcv hcl ?_
      refine lv_astore (lv' := [(6, .ref q9), (0, .ref (q 0)), (1, .int (iZ z1)), (2, .int (iZ uu)), (3, .int (iZ mm)), (4, .int (iZ (bZ (bb)))), (5, .ref o)]) hx hb dL_yearUnits_22 hl (by decide) rfl (fun ls hl => ?_)
      refine lv_iconst (v := iZ 2) hx hb dL_yearUnits_24 rfl ?_
      refine W.widen (k := 2) (n := 12) (Nat.le_of_ble_eq_true rfl) (Nat.le_of_ble_eq_true rfl) ?_
      exact W.iret (v := iZ 2) hx hb hr (fun t ht hW => ⟨⟨congrArg (fun z : Int => Outcome.returned (some (Value.int (iZ z)))) (show 2 = ex2 (!inb z1 0 3) (!inb uu 1 4) from hE.symm), by rw [ht]; exact ⟨gX_cast hG9 (if_neg (by rw [hE]; decide)).symm, sn, sv, fun z => absurd z (by rw [hE]; decide), hO8⟩⟩, hS.F ht⟩) hS.2.2 dL_yearUnits_25 hlocks
  obtain ⟨tb1, tn1, tm1, htn1, hfit1, htm1, hP1⟩ := hG1
  have hPO := hP1.app (hO.kept (H1 := H1) (fun i p hp => hk9 _ (hO i p hp).lt (by match i, hp with | 0, hp => cases hp; exact hno (hO 0 _ rfl).lt | n + 1, hp => cases hp)))
  generalize H1 = H at hPO hS ⊢
  clear hk9 hy9
  refine kz_w32 ?_
  refine kz_i2l hx hb (w32_rng _) dL_yearUnits_11 ?_
  refine va_putN (D := (dC, dI)) (ci := 5) (v := .long (lZ ((w32 (putYr (σ 2 (z1.toNat) + sgn (mm * yus uu) bb)))))) (ty := .long) (C := RX2) (T := TX2) (N := 2) hx hb hts (fun w h => List.mem_cons_of_mem _ (gF_1_in h)) tyX2 tyX2_ok nmX2 hown hM.1 hPO (kXO_D hq ho9) hS 9 rfl rfl 0 (by decide) (va_Nw.use rfl hL.1) (fun _ h9 => h9) rfl (by decide +kernel) rfl rfl (Nat.le_of_ble_eq_true rfl) dL_yearUnits_12 (fun H locs hPO hD hS => ?_)
  refine lv_goto (tgt := 26) hx hb dL_yearUnits_15 (by decide) ?_
  refine lv_iconst (v := iZ 0) hx hb dL_yearUnits_26 rfl ?_
  refine W.widen (k := 2) (n := 12) (Nat.le_of_ble_eq_true rfl) (Nat.le_of_ble_eq_true rfl) ?_
  exact W.iret (v := iZ 0) hx hb hr (fun t ht hW => ⟨⟨congrArg (fun z : Int => Outcome.returned (some (Value.int (iZ z)))) (show 0 = ex2 (!inb z1 0 3) (!inb uu 1 4) from hE.symm), by rw [ht]; exact ⟨gX_cast ⟨tb1, tn1, tm1, htn1, hfit1, htm1, va_Pl (a := kX q dA (putYs σ (z1.toNat) (σ 2 (z1.toNat) + sgn (mm * yus uu) bb)) tb1 (nI tn1) tm1) hPO⟩ (if_pos hE).symm, _, _, fun _ => rfl, va_Pr (a := kX q dA (putYs σ (z1.toNat) (σ 2 (z1.toNat) + sgn (mm * yus uu) bb)) tb1 (nI tn1) tm1) hPO⟩⟩, hS.F ht⟩) hS.2.2 dL_yearUnits_27 hlocks

abbrev ww_L_yearWith : List Cond := .codeWith yL_yearWith cL_yearWith 6 (some .int) [(0, 13, 16, 19), (0, 13, 20, 21)] :: gT
set_option maxHeartbeats 4000000 in
set_option maxRecDepth 100000 in
theorem c_L_yearWith (l : Launch) (hst : l.stackTraces = false) (dC : Nat → ClassId) (dI : Nat → Nat → Nat) (dA : Nat → ClassId) (k : Nat → Nat) (q : Nat → Nat) (σ : Nat → Nat → Int) (H0 : Heap) (hG : gX dC dI dA q σ H0) (hOK : kOK σ) (hq : kQI q k) (o : Nat) (sn : Int) (sv : Value) (hO : va_P (dC, dI) vwCl [(o, .inr (5, [.long (lZ sn), sv]))] H0) (hko : k 0 ≤ o) (ho9 : ∀ i : Nat, i < 9 → q i ≠ o) (z1 : Int) (w0 : Int) (v0 : Int) (rz1 : -2147483648 ≤ z1 ∧ z1 < 2147483648) (rw0 : -2147483648 ≤ w0 ∧ w0 < 2147483648) (rv0 : -2147483648 ≤ v0 ∧ v0 < 2147483648) : Met l yL_yearWith ww_L_yearWith ({ frames := 12, cells := 3, slots := 18, locals := 386 }) (va_Pc [.ref (q 0), .int (iZ z1), .int (iZ w0), .int (iZ v0), .ref o] (fun U => U.heap = H0 ∧ kMJ dC dI dA k U ∧ kL U)) (kQ2 (some (.int (iZ (ex2 (!inb z1 0 3) (!inb w0 0 2 || noThing (w0 + 1) v0))))) (fun H => gX dC dI dA q (if ex2 (!inb z1 0 3) (!inb w0 0 2 || noThing (w0 + 1) v0) = 0 then (putYs σ (z1.toNat) (ywt (σ 2 (z1.toNat)) w0 v0)) else σ) H ∧ gO dC dI o (fun n => ex2 (!inb z1 0 3) (!inb w0 0 2 || noThing (w0 + 1) v0) = 0 → n = w32 (putYr (ywt (σ 2 (z1.toNat)) w0 v0))) H) (kAO q o H0.size)) 3 18 (kAO q o H0.size) := by
  refine k_ofWH (cc := cL_yearWith) (maxL := 6) (ret := (some .int)) (hh := [(0, 13, 16, 19), (0, 13, 20, 21)]) (by decide) rfl ?_
  intro p e s m args below meth c s₁ B hml hv
  obtain ⟨rfl, hH, hMJ, hL⟩ := hv
  subst hH
  have hM := hMJ.1
  have hAN : ∀ a, kAO q o s.heap.size a → k 0 ≤ a := kAO_N hq hko hM.2.1.1
  have hS : va_S (kAO q o s.heap.size) s.heap s.heap [] := va_S.rf
  have hno : o < s.heap.size → ¬ kA q s.heap.size o := fun h z => z.elim (fun ⟨i, hi, e9⟩ => ho9 i hi e9.symm) (fun y => absurd h (Nat.not_lt.mpr y))
  obtain ⟨tb, tn, tm, htn, hfit, htm, hPx⟩ := id hG
  have hx := B.exec
  have hb := B.bytes
  have hr := B.returns
  have hts := atoms_spec (ws := ww_L_yearWith) B.pre
  have hown : s.vm.findClass RL = some m.cls := findClass_of_methodNamed B.named
  have hlocks := B.notSynchronized
  have hl := lv_entry ([.ref (q 0), .int (iZ z1), .int (iZ w0), .int (iZ v0), .ref o]) (n := 6) (Nat.le_of_ble_eq_true rfl)
  rw [lg_entry_eq]
  generalize (lg_sl ([.ref (q 0), .int (iZ z1), .int (iZ w0), .int (iZ v0), .ref o]) ++ List.replicate (6 - (lg_sl ([.ref (q 0), .int (iZ z1), .int (iZ w0), .int (iZ v0), .ref o])).length) Slot.unset).toArray = ls at hl ⊢
  have hl : lv_has ls 6 [(0, .ref (q 0)), (1, .int (iZ z1)), (2, .int (iZ w0)), (3, .int (iZ v0)), (4, .ref o)] := hl
  have hTab := vx_table (x := yL_yearWith) B (hts _ List.mem_cons_self)
  refine lv_aload hx hb dL_yearWith_0 (lv_at hl 4 rfl) ?_
  refine lv_aload_n hx hb dL_yearWith_2 rfl (lv_at hl 0 rfl) ?_
  refine lv_iload_n hx hb dL_yearWith_3 rfl (lv_at hl 1 rfl) ?_
  refine lv_iload_n hx hb dL_yearWith_4 rfl (lv_at hl 2 rfl) ?_
  refine lv_iload_n hx hb dL_yearWith_5 rfl (lv_at hl 3 rfl) ?_
  refine kcxc (vx_runV (As := [.int (iZ z1), .int (iZ w0), .int (iZ v0)]) (rest := [.ref o]) ⟨hx, hb, hml, hown, hts⟩ (c_X1_yearWith l hst dC dI dA k q σ _ hG hOK hq z1 w0 v0 rz1 rw0 rv0) (cwV 3 hts (kg_V mw762 mw763 mw764 mw42 rfl mw765) rfl rfl rfl hdV_X1_yearWith ⟨Nat.le_of_ble_eq_true rfl, Nat.le_of_ble_eq_true rfl⟩) ⟨fun a U g mk q => ⟨q.1, q.2.1, kM_call q.2.2⟩, va_recv hM.1 hPx (ci := 4) (q0 := 0) rfl rfl, fun U hU hW => ⟨rfl, hU, kM_kept hM hS hAN hU hW⟩⟩ rfl rfl hl.1 rfl (lv_room (Nat.le_of_ble_eq_true rfl)) dL_yearWith_6 ⟨Nat.le_of_ble_eq_true rfl, Nat.le_of_ble_eq_true rfl⟩) hS (fun a _ h => Or.inl h) (fun a h => Or.inl h) (fun E ce q9 H1 locs hE hy9 hk9 hS hce hcv hcl => ?_) (fun H1 locs hG1 hE hy9 hk9 hS => ?_)
  · have hG9 : gX dC dI dA q σ H1 := gX_kept hG (fun i _ h => hk9 _ h)
    have hO8 := hO.kept (H1 := H1) (fun i p hp => hk9 _ (hO i p hp).lt)
    rcases hE with ⟨hE, rfl⟩ | ⟨hE, rfl⟩
    · refine vx_catch (own := RL) (name := "java/lang/IndexOutOfBoundsException") hown [] ⟨0, 13, 16, 19⟩ [⟨0, 13, 20, 21⟩] hTab (fun z h => absurd h List.not_mem_nil) (by decide) (by decide) (hts _ (List.mem_cons_of_mem _ mw604)) (va_Nw.use rfl hL.2.2.1) hce hcv hcl ?_
      refine lv_astore (lv' := [(5, .ref q9), (0, .ref (q 0)), (1, .int (iZ z1)), (2, .int (iZ w0)), (3, .int (iZ v0)), (4, .ref o)]) hx hb dL_yearWith_16 hl (by decide) rfl (fun ls hl => ?_)
      refine lv_iconst (v := iZ 1) hx hb dL_yearWith_18 rfl ?_
      refine W.widen (k := 3) (n := 18) (Nat.le_of_ble_eq_true rfl) (Nat.le_of_ble_eq_true rfl) ?_
      exact W.iret (v := iZ 1) hx hb hr (fun t ht hW => ⟨⟨congrArg (fun z : Int => Outcome.returned (some (Value.int (iZ z)))) (show 1 = ex2 (!inb z1 0 3) (!inb w0 0 2 || noThing (w0 + 1) v0) from hE.symm), by rw [ht]; exact ⟨gX_cast hG9 (if_neg (by rw [hE]; decide)).symm, sn, sv, fun z => absurd z (by rw [hE]; decide), hO8⟩⟩, hS.F ht⟩) hS.2.2 dL_yearWith_19 hlocks
    · refine vx_catch (own := RL) (name := "java/lang/IllegalArgumentException") hown [⟨0, 13, 16, 19⟩] ⟨0, 13, 20, 21⟩ [] hTab (fun z h => by cases List.mem_singleton.mp h; exact Or.inr ⟨by decide, "java/lang/IndexOutOfBoundsException", (hts _ (List.mem_cons_of_mem _ mw604)), hM.2.1.2.2.2.2.2.2.2.2.2.2.2⟩) (by decide) (by decide) (hts _ (List.mem_cons_of_mem _ mw605)) (va_Nw.use rfl hL.2.2.2) hce hcv hcl ?_
      refine lv_astore (lv' := [(5, .ref q9), (0, .ref (q 0)), (1, .int (iZ z1)), (2, .int (iZ w0)), (3, .int (iZ v0)), (4, .ref o)]) hx hb dL_yearWith_20 hl (by decide) rfl (fun ls hl => ?_)
      refine lv_iconst (v := iZ 2) hx hb dL_yearWith_22 rfl ?_
      refine W.widen (k := 3) (n := 18) (Nat.le_of_ble_eq_true rfl) (Nat.le_of_ble_eq_true rfl) ?_
      exact W.iret (v := iZ 2) hx hb hr (fun t ht hW => ⟨⟨congrArg (fun z : Int => Outcome.returned (some (Value.int (iZ z)))) (show 2 = ex2 (!inb z1 0 3) (!inb w0 0 2 || noThing (w0 + 1) v0) from hE.symm), by rw [ht]; exact ⟨gX_cast hG9 (if_neg (by rw [hE]; decide)).symm, sn, sv, fun z => absurd z (by rw [hE]; decide), hO8⟩⟩, hS.F ht⟩) hS.2.2 dL_yearWith_23 hlocks
  obtain ⟨tb1, tn1, tm1, htn1, hfit1, htm1, hP1⟩ := hG1
  have hPO := hP1.app (hO.kept (H1 := H1) (fun i p hp => hk9 _ (hO i p hp).lt (by match i, hp with | 0, hp => cases hp; exact hno (hO 0 _ rfl).lt | n + 1, hp => cases hp)))
  generalize H1 = H at hPO hS ⊢
  clear hk9 hy9
  refine kz_w32 ?_
  refine kz_i2l hx hb (w32_rng _) dL_yearWith_9 ?_
  refine va_putN (D := (dC, dI)) (ci := 5) (v := .long (lZ ((w32 (putYr (ywt (σ 2 (z1.toNat)) w0 v0)))))) (ty := .long) (C := RX2) (T := TX2) (N := 2) hx hb hts (fun w h => List.mem_cons_of_mem _ (gF_1_in h)) tyX2 tyX2_ok nmX2 hown hM.1 hPO (kXO_D hq ho9) hS 9 rfl rfl 0 (by decide) (va_Nw.use rfl hL.1) (fun _ h9 => h9) rfl (by decide +kernel) rfl rfl (Nat.le_of_ble_eq_true rfl) dL_yearWith_10 (fun H locs hPO hD hS => ?_)
  refine lv_goto (tgt := 24) hx hb dL_yearWith_13 (by decide) ?_
  refine lv_iconst (v := iZ 0) hx hb dL_yearWith_24 rfl ?_
  refine W.widen (k := 3) (n := 18) (Nat.le_of_ble_eq_true rfl) (Nat.le_of_ble_eq_true rfl) ?_
  exact W.iret (v := iZ 0) hx hb hr (fun t ht hW => ⟨⟨congrArg (fun z : Int => Outcome.returned (some (Value.int (iZ z)))) (show 0 = ex2 (!inb z1 0 3) (!inb w0 0 2 || noThing (w0 + 1) v0) from hE.symm), by rw [ht]; exact ⟨gX_cast ⟨tb1, tn1, tm1, htn1, hfit1, htm1, va_Pl (a := kX q dA (putYs σ (z1.toNat) (ywt (σ 2 (z1.toNat)) w0 v0)) tb1 (nI tn1) tm1) hPO⟩ (if_pos hE).symm, _, _, fun _ => rfl, va_Pr (a := kX q dA (putYs σ (z1.toNat) (ywt (σ 2 (z1.toNat)) w0 v0)) tb1 (nI tn1) tm1) hPO⟩⟩, hS.F ht⟩) hS.2.2 dL_yearWith_25 hlocks

abbrev ww_L_yearOf : List Cond := .codeWith yL_yearOf cL_yearOf 6 (some .int) [(0, 13, 16, 19)] :: gT
set_option maxHeartbeats 4000000 in
set_option maxRecDepth 100000 in
theorem c_L_yearOf (l : Launch) (hst : l.stackTraces = false) (dC : Nat → ClassId) (dI : Nat → Nat → Nat) (dA : Nat → ClassId) (k : Nat → Nat) (q : Nat → Nat) (σ : Nat → Nat → Int) (H0 : Heap) (hG : gX dC dI dA q σ H0) (hOK : kOK σ) (hq : kQI q k) (o : Nat) (sn : Int) (sv : Value) (hO : va_P (dC, dI) vwCl [(o, .inr (5, [.long (lZ sn), sv]))] H0) (hko : k 0 ≤ o) (ho9 : ∀ i : Nat, i < 9 → q i ≠ o) (z1 : Int) (bb : Bool) (z2 : Int) (rz1 : -2147483648 ≤ z1 ∧ z1 < 2147483648) (rz2 : -2147483648 ≤ z2 ∧ z2 < 2147483648) : Met l yL_yearOf ww_L_yearOf ({ frames := 10, cells := 2, slots := 12, locals := 343 }) (va_Pc [.ref (q 0), .int (iZ z1), .int (iZ (bZ (bb))), .int (iZ z2), .ref o] (fun U => U.heap = H0 ∧ kMJ dC dI dA k U ∧ kL U)) (kQ2 (some (.int (iZ (ex2 (!inb z1 0 3 || !inb z2 0 3) (false))))) (fun H => gX dC dI dA q (if ex2 (!inb z1 0 3 || !inb z2 0 3) (false) = 0 then (sU σ 2 (z1.toNat) (if bb = true then σ 5 (z2.toNat) else σ 0 (z2.toNat))) else σ) H ∧ gO dC dI o (fun n => ex2 (!inb z1 0 3 || !inb z2 0 3) (false) = 0 → n = w32 (ylen (if bb = true then σ 5 (z2.toNat) else σ 0 (z2.toNat)))) H) (kAO q o H0.size)) 2 12 (kAO q o H0.size) := by
  refine k_ofWH (cc := cL_yearOf) (maxL := 6) (ret := (some .int)) (hh := [(0, 13, 16, 19)]) (by decide) rfl ?_
  intro p e s m args below meth c s₁ B hml hv
  obtain ⟨rfl, hH, hMJ, hL⟩ := hv
  subst hH
  have hM := hMJ.1
  have hAN : ∀ a, kAO q o s.heap.size a → k 0 ≤ a := kAO_N hq hko hM.2.1.1
  have hS : va_S (kAO q o s.heap.size) s.heap s.heap [] := va_S.rf
  have hno : o < s.heap.size → ¬ kA q s.heap.size o := fun h z => z.elim (fun ⟨i, hi, e9⟩ => ho9 i hi e9.symm) (fun y => absurd h (Nat.not_lt.mpr y))
  obtain ⟨tb, tn, tm, htn, hfit, htm, hPx⟩ := id hG
  have hx := B.exec
  have hb := B.bytes
  have hr := B.returns
  have hts := atoms_spec (ws := ww_L_yearOf) B.pre
  have hown : s.vm.findClass RL = some m.cls := findClass_of_methodNamed B.named
  have hlocks := B.notSynchronized
  have hl := lv_entry ([.ref (q 0), .int (iZ z1), .int (iZ (bZ (bb))), .int (iZ z2), .ref o]) (n := 6) (Nat.le_of_ble_eq_true rfl)
  rw [lg_entry_eq]
  generalize (lg_sl ([.ref (q 0), .int (iZ z1), .int (iZ (bZ (bb))), .int (iZ z2), .ref o]) ++ List.replicate (6 - (lg_sl ([.ref (q 0), .int (iZ z1), .int (iZ (bZ (bb))), .int (iZ z2), .ref o])).length) Slot.unset).toArray = ls at hl ⊢
  have hl : lv_has ls 6 [(0, .ref (q 0)), (1, .int (iZ z1)), (2, .int (iZ (bZ (bb)))), (3, .int (iZ z2)), (4, .ref o)] := hl
  have hTab := vx_table (x := yL_yearOf) B (hts _ List.mem_cons_self)
  refine lv_aload hx hb dL_yearOf_0 (lv_at hl 4 rfl) ?_
  refine lv_aload_n hx hb dL_yearOf_2 rfl (lv_at hl 0 rfl) ?_
  refine lv_iload_n hx hb dL_yearOf_3 rfl (lv_at hl 1 rfl) ?_
  refine lv_iload_n hx hb dL_yearOf_4 rfl (lv_at hl 2 rfl) ?_
  refine lv_iload_n hx hb dL_yearOf_5 rfl (lv_at hl 3 rfl) ?_
  refine kcxc (vx_runV (As := [.int (iZ z1), .int (iZ (bZ (bb))), .int (iZ z2)]) (rest := [.ref o]) ⟨hx, hb, hml, hown, hts⟩ (c_X1_yearOf l hst dC dI dA k q σ _ hG hOK hq z1 bb z2 rz1 rz2) (cwV 3 hts (kg_V mw769 mw770 mw771 mw42 rfl mw772) rfl rfl rfl hdV_X1_yearOf ⟨Nat.le_of_ble_eq_true rfl, Nat.le_of_ble_eq_true rfl⟩) ⟨fun a U g mk q => ⟨q.1, q.2.1, kM_call q.2.2⟩, va_recv hM.1 hPx (ci := 4) (q0 := 0) rfl rfl, fun U hU hW => ⟨rfl, hU, kM_kept hM hS hAN hU hW⟩⟩ rfl rfl hl.1 rfl (lv_room (Nat.le_of_ble_eq_true rfl)) dL_yearOf_6 ⟨Nat.le_of_ble_eq_true rfl, Nat.le_of_ble_eq_true rfl⟩) hS (fun a _ h => Or.inl h) (fun a h => Or.inl h) (fun E ce q9 H1 locs hE hy9 hk9 hS hce hcv hcl => ?_) (fun H1 locs hG1 hE hy9 hk9 hS => ?_)
  · have hG9 : gX dC dI dA q σ H1 := gX_kept hG (fun i _ h => hk9 _ h)
    have hO8 := hO.kept (H1 := H1) (fun i p hp => hk9 _ (hO i p hp).lt)
    rcases hE with ⟨hE, rfl⟩ | ⟨hE, rfl⟩
    · refine vx_catch (own := RL) (name := "java/lang/IndexOutOfBoundsException") hown [] ⟨0, 13, 16, 19⟩ [] hTab (fun z h => absurd h List.not_mem_nil) (by decide) (by decide) (hts _ (List.mem_cons_of_mem _ mw604)) (va_Nw.use rfl hL.2.2.1) hce hcv hcl ?_
      refine lv_astore (lv' := [(5, .ref q9), (0, .ref (q 0)), (1, .int (iZ z1)), (2, .int (iZ (bZ (bb)))), (3, .int (iZ z2)), (4, .ref o)]) hx hb dL_yearOf_16 hl (by decide) rfl (fun ls hl => ?_)
      refine lv_iconst (v := iZ 1) hx hb dL_yearOf_18 rfl ?_
      refine W.widen (k := 2) (n := 12) (Nat.le_of_ble_eq_true rfl) (Nat.le_of_ble_eq_true rfl) ?_
      exact W.iret (v := iZ 1) hx hb hr (fun t ht hW => ⟨⟨congrArg (fun z : Int => Outcome.returned (some (Value.int (iZ z)))) (show 1 = ex2 (!inb z1 0 3 || !inb z2 0 3) (false) from hE.symm), by rw [ht]; exact ⟨gX_cast hG9 (if_neg (by rw [hE]; decide)).symm, sn, sv, fun z => absurd z (by rw [hE]; decide), hO8⟩⟩, hS.F ht⟩) hS.2.2 dL_yearOf_19 hlocks
    · exact absurd hE ex2_no2
  obtain ⟨tb1, tn1, tm1, htn1, hfit1, htm1, hP1⟩ := hG1
  have hPO := hP1.app (hO.kept (H1 := H1) (fun i p hp => hk9 _ (hO i p hp).lt (by match i, hp with | 0, hp => cases hp; exact hno (hO 0 _ rfl).lt | n + 1, hp => cases hp)))
  generalize H1 = H at hPO hS ⊢
  clear hk9 hy9
  refine kz_w32 ?_
  refine kz_i2l hx hb (w32_rng _) dL_yearOf_9 ?_
  refine va_putN (D := (dC, dI)) (ci := 5) (v := .long (lZ ((w32 (ylen (if bb = true then σ 5 (z2.toNat) else σ 0 (z2.toNat))))))) (ty := .long) (C := RX2) (T := TX2) (N := 2) hx hb hts (fun w h => List.mem_cons_of_mem _ (gF_1_in h)) tyX2 tyX2_ok nmX2 hown hM.1 hPO (kXO_D hq ho9) hS 9 rfl rfl 0 (by decide) (va_Nw.use rfl hL.1) (fun _ h9 => h9) rfl (by decide +kernel) rfl rfl (Nat.le_of_ble_eq_true rfl) dL_yearOf_10 (fun H locs hPO hD hS => ?_)
  refine lv_goto (tgt := 20) hx hb dL_yearOf_13 (by decide) ?_
  refine lv_iconst (v := iZ 0) hx hb dL_yearOf_20 rfl ?_
  refine W.widen (k := 2) (n := 12) (Nat.le_of_ble_eq_true rfl) (Nat.le_of_ble_eq_true rfl) ?_
  exact W.iret (v := iZ 0) hx hb hr (fun t ht hW => ⟨⟨congrArg (fun z : Int => Outcome.returned (some (Value.int (iZ z)))) (show 0 = ex2 (!inb z1 0 3 || !inb z2 0 3) (false) from hE.symm), by rw [ht]; exact ⟨gX_cast ⟨tb1, tn1, tm1, htn1, hfit1, htm1, va_Pl (a := kX q dA (sU σ 2 (z1.toNat) (if bb = true then σ 5 (z2.toNat) else σ 0 (z2.toNat))) tb1 (nI tn1) tm1) hPO⟩ (if_pos hE).symm, _, _, fun _ => rfl, va_Pr (a := kX q dA (sU σ 2 (z1.toNat) (if bb = true then σ 5 (z2.toNat) else σ 0 (z2.toNat))) tb1 (nI tn1) tm1) hPO⟩⟩, hS.F ht⟩) hS.2.2 dL_yearOf_21 hlocks

abbrev ww_L_yearLike : List Cond := .codeWith yL_yearLike cL_yearLike 5 (some .int) [(0, 11, 14, 19)] :: gT
set_option maxHeartbeats 4000000 in
set_option maxRecDepth 100000 in
theorem c_L_yearLike (l : Launch) (hst : l.stackTraces = false) (dC : Nat → ClassId) (dI : Nat → Nat → Nat) (dA : Nat → ClassId) (k : Nat → Nat) (q : Nat → Nat) (σ : Nat → Nat → Int) (H0 : Heap) (hG : gX dC dI dA q σ H0) (hOK : kOK σ) (hq : kQI q k) (o : Nat) (sn : Int) (sv : Value) (hO : va_P (dC, dI) vwCl [(o, .inr (5, [.long (lZ sn), sv]))] H0) (hko : k 0 ≤ o) (ho9 : ∀ i : Nat, i < 9 → q i ≠ o) (z1 : Int) (z2 : Int) (rz1 : -2147483648 ≤ z1 ∧ z1 < 2147483648) (rz2 : -2147483648 ≤ z2 ∧ z2 < 2147483648) : Met l yL_yearLike ww_L_yearLike ({ frames := 10, cells := 2, slots := 12, locals := 343 }) (va_Pc [.ref (q 0), .int (iZ z1), .int (iZ z2), .ref o] (fun U => U.heap = H0 ∧ kMJ dC dI dA k U ∧ kL U)) (kQ2 (some (.int (iZ (ex2 (!inb z1 0 3 || !inb z2 0 3) (false))))) (fun H => gX dC dI dA q (if ex2 (!inb z1 0 3 || !inb z2 0 3) (false) = 0 then (sU σ 2 (z1.toNat) (σ 2 (z2.toNat))) else σ) H ∧ gO dC dI o (fun n => ex2 (!inb z1 0 3 || !inb z2 0 3) (false) = 0 → n = w32 (bZ (decide (σ 2 (z1.toNat) = σ 2 (z2.toNat))))) H) (kAO q o H0.size)) 2 12 (kAO q o H0.size) := by
  refine k_ofWH (cc := cL_yearLike) (maxL := 5) (ret := (some .int)) (hh := [(0, 11, 14, 19)]) (by decide) rfl ?_
  intro p e s m args below meth c s₁ B hml hv
  obtain ⟨rfl, hH, hMJ, hL⟩ := hv
  subst hH
  have hM := hMJ.1
  have hAN : ∀ a, kAO q o s.heap.size a → k 0 ≤ a := kAO_N hq hko hM.2.1.1
  have hS : va_S (kAO q o s.heap.size) s.heap s.heap [] := va_S.rf
  have hno : o < s.heap.size → ¬ kA q s.heap.size o := fun h z => z.elim (fun ⟨i, hi, e9⟩ => ho9 i hi e9.symm) (fun y => absurd h (Nat.not_lt.mpr y))
  obtain ⟨tb, tn, tm, htn, hfit, htm, hPx⟩ := id hG
  have hx := B.exec
  have hb := B.bytes
  have hr := B.returns
  have hts := atoms_spec (ws := ww_L_yearLike) B.pre
  have hown : s.vm.findClass RL = some m.cls := findClass_of_methodNamed B.named
  have hlocks := B.notSynchronized
  have hl := lv_entry ([.ref (q 0), .int (iZ z1), .int (iZ z2), .ref o]) (n := 5) (Nat.le_of_ble_eq_true rfl)
  rw [lg_entry_eq]
  generalize (lg_sl ([.ref (q 0), .int (iZ z1), .int (iZ z2), .ref o]) ++ List.replicate (5 - (lg_sl ([.ref (q 0), .int (iZ z1), .int (iZ z2), .ref o])).length) Slot.unset).toArray = ls at hl ⊢
  have hl : lv_has ls 5 [(0, .ref (q 0)), (1, .int (iZ z1)), (2, .int (iZ z2)), (3, .ref o)] := hl
  have hTab := vx_table (x := yL_yearLike) B (hts _ List.mem_cons_self)
  refine lv_aload_n hx hb dL_yearLike_0 rfl (lv_at hl 3 rfl) ?_
  refine lv_aload_n hx hb dL_yearLike_1 rfl (lv_at hl 0 rfl) ?_
  refine lv_iload_n hx hb dL_yearLike_2 rfl (lv_at hl 1 rfl) ?_
  refine lv_iload_n hx hb dL_yearLike_3 rfl (lv_at hl 2 rfl) ?_
  refine kcxc (vx_runV (As := [.int (iZ z1), .int (iZ z2)]) (rest := [.ref o]) ⟨hx, hb, hml, hown, hts⟩ (c_X1_yearLike l hst dC dI dA k q σ _ hG hOK hq z1 z2 rz1 rz2) (cwV 2 hts (kg_V mw776 mw777 mw778 mw42 rfl mw779) rfl rfl rfl hdV_X1_yearLike ⟨Nat.le_of_ble_eq_true rfl, Nat.le_of_ble_eq_true rfl⟩) ⟨fun a U g mk q => ⟨q.1, q.2.1, kM_call q.2.2⟩, va_recv hM.1 hPx (ci := 4) (q0 := 0) rfl rfl, fun U hU hW => ⟨rfl, hU, kM_kept hM hS hAN hU hW⟩⟩ rfl rfl hl.1 rfl (lv_room (Nat.le_of_ble_eq_true rfl)) dL_yearLike_4 ⟨Nat.le_of_ble_eq_true rfl, Nat.le_of_ble_eq_true rfl⟩) hS (fun a _ h => Or.inl h) (fun a h => Or.inl h) (fun E ce q9 H1 locs hE hy9 hk9 hS hce hcv hcl => ?_) (fun H1 locs hG1 hE hy9 hk9 hS => ?_)
  · have hG9 : gX dC dI dA q σ H1 := gX_kept hG (fun i _ h => hk9 _ h)
    have hO8 := hO.kept (H1 := H1) (fun i p hp => hk9 _ (hO i p hp).lt)
    rcases hE with ⟨hE, rfl⟩ | ⟨hE, rfl⟩
    · refine vx_catch (own := RL) (name := "java/lang/IndexOutOfBoundsException") hown [] ⟨0, 11, 14, 19⟩ [] hTab (fun z h => absurd h List.not_mem_nil) (by decide) (by decide) (hts _ (List.mem_cons_of_mem _ mw604)) (va_Nw.use rfl hL.2.2.1) hce hcv hcl ?_
      refine lv_astore (lv' := [(4, .ref q9), (0, .ref (q 0)), (1, .int (iZ z1)), (2, .int (iZ z2)), (3, .ref o)]) hx hb dL_yearLike_14 hl (by decide) rfl (fun ls hl => ?_)
      refine lv_iconst (v := iZ 1) hx hb dL_yearLike_16 rfl ?_
      refine W.widen (k := 2) (n := 12) (Nat.le_of_ble_eq_true rfl) (Nat.le_of_ble_eq_true rfl) ?_
      exact W.iret (v := iZ 1) hx hb hr (fun t ht hW => ⟨⟨congrArg (fun z : Int => Outcome.returned (some (Value.int (iZ z)))) (show 1 = ex2 (!inb z1 0 3 || !inb z2 0 3) (false) from hE.symm), by rw [ht]; exact ⟨gX_cast hG9 (if_neg (by rw [hE]; decide)).symm, sn, sv, fun z => absurd z (by rw [hE]; decide), hO8⟩⟩, hS.F ht⟩) hS.2.2 dL_yearLike_17 hlocks
    · exact absurd hE ex2_no2
  obtain ⟨tb1, tn1, tm1, htn1, hfit1, htm1, hP1⟩ := hG1
  have hPO := hP1.app (hO.kept (H1 := H1) (fun i p hp => hk9 _ (hO i p hp).lt (by match i, hp with | 0, hp => cases hp; exact hno (hO 0 _ rfl).lt | n + 1, hp => cases hp)))
  generalize H1 = H at hPO hS ⊢
  clear hk9 hy9
  refine kz_w32 ?_
  refine kz_i2l hx hb (w32_rng _) dL_yearLike_7 ?_
  refine va_putN (D := (dC, dI)) (ci := 5) (v := .long (lZ ((w32 (bZ (decide (σ 2 (z1.toNat) = σ 2 (z2.toNat)))))))) (ty := .long) (C := RX2) (T := TX2) (N := 2) hx hb hts (fun w h => List.mem_cons_of_mem _ (gF_1_in h)) tyX2 tyX2_ok nmX2 hown hM.1 hPO (kXO_D hq ho9) hS 9 rfl rfl 0 (by decide) (va_Nw.use rfl hL.1) (fun _ h9 => h9) rfl (by decide +kernel) rfl rfl (Nat.le_of_ble_eq_true rfl) dL_yearLike_8 (fun H locs hPO hD hS => ?_)
  refine lv_goto (tgt := 18) hx hb dL_yearLike_11 (by decide) ?_
  refine lv_iconst (v := iZ 0) hx hb dL_yearLike_18 rfl ?_
  refine W.widen (k := 2) (n := 12) (Nat.le_of_ble_eq_true rfl) (Nat.le_of_ble_eq_true rfl) ?_
  exact W.iret (v := iZ 0) hx hb hr (fun t ht hW => ⟨⟨congrArg (fun z : Int => Outcome.returned (some (Value.int (iZ z)))) (show 0 = ex2 (!inb z1 0 3 || !inb z2 0 3) (false) from hE.symm), by rw [ht]; exact ⟨gX_cast ⟨tb1, tn1, tm1, htn1, hfit1, htm1, va_Pl (a := kX q dA (sU σ 2 (z1.toNat) (σ 2 (z2.toNat))) tb1 (nI tn1) tm1) hPO⟩ (if_pos hE).symm, _, _, fun _ => rfl, va_Pr (a := kX q dA (sU σ 2 (z1.toNat) (σ 2 (z2.toNat))) tb1 (nI tn1) tm1) hPO⟩⟩, hS.F ht⟩) hS.2.2 dL_yearLike_19 hlocks

abbrev ww_L_feast : List Cond := .codeWith yL_feast cL_feast 6 (some .int) [(0, 13, 16, 19), (0, 13, 20, 21)] :: gT
set_option maxHeartbeats 4000000 in
set_option maxRecDepth 100000 in
theorem c_L_feast (l : Launch) (hst : l.stackTraces = false) (dC : Nat → ClassId) (dI : Nat → Nat → Nat) (dA : Nat → ClassId) (k : Nat → Nat) (q : Nat → Nat) (σ : Nat → Nat → Int) (H0 : Heap) (hG : gX dC dI dA q σ H0) (hOK : kOK σ) (hq : kQI q k) (o : Nat) (sn : Int) (sv : Value) (hO : va_P (dC, dI) vwCl [(o, .inr (5, [.long (lZ sn), sv]))] H0) (hko : k 0 ≤ o) (ho9 : ∀ i : Nat, i < 9 → q i ≠ o) (z1 : Int) (mo : Int) (dd : Int) (rz1 : -2147483648 ≤ z1 ∧ z1 < 2147483648) (rmo : -2147483648 ≤ mo ∧ mo < 2147483648) (rdd : -2147483648 ≤ dd ∧ dd < 2147483648) : Met l yL_feast ww_L_feast ({ frames := 11, cells := 3, slots := 18, locals := 365 }) (va_Pc [.ref (q 0), .int (iZ z1), .int (iZ mo), .int (iZ dd), .ref o] (fun U => U.heap = H0 ∧ kMJ dC dI dA k U ∧ kL U)) (kQ2 (some (.int (iZ (ex2 (!inb z1 0 3) (!inb mo 1 12 || !inb dd 1 31))))) (fun H => gX dC dI dA q (if ex2 (!inb z1 0 3) (!inb mo 1 12 || !inb dd 1 31) = 0 then (putFs σ (z1.toNat) mo dd) else σ) H ∧ gO dC dI o (fun n => ex2 (!inb z1 0 3) (!inb mo 1 12 || !inb dd 1 31) = 0 → n = w32 (if putFr mo dd = true then bZ (decide (mo ≠ 2 ∨ dd ≤ 28)) else -9)) H) (kAO q o H0.size)) 3 18 (kAO q o H0.size) := by
  refine k_ofWH (cc := cL_feast) (maxL := 6) (ret := (some .int)) (hh := [(0, 13, 16, 19), (0, 13, 20, 21)]) (by decide) rfl ?_
  intro p e s m args below meth c s₁ B hml hv
  obtain ⟨rfl, hH, hMJ, hL⟩ := hv
  subst hH
  have hM := hMJ.1
  have hAN : ∀ a, kAO q o s.heap.size a → k 0 ≤ a := kAO_N hq hko hM.2.1.1
  have hS : va_S (kAO q o s.heap.size) s.heap s.heap [] := va_S.rf
  have hno : o < s.heap.size → ¬ kA q s.heap.size o := fun h z => z.elim (fun ⟨i, hi, e9⟩ => ho9 i hi e9.symm) (fun y => absurd h (Nat.not_lt.mpr y))
  obtain ⟨tb, tn, tm, htn, hfit, htm, hPx⟩ := id hG
  have hx := B.exec
  have hb := B.bytes
  have hr := B.returns
  have hts := atoms_spec (ws := ww_L_feast) B.pre
  have hown : s.vm.findClass RL = some m.cls := findClass_of_methodNamed B.named
  have hlocks := B.notSynchronized
  have hl := lv_entry ([.ref (q 0), .int (iZ z1), .int (iZ mo), .int (iZ dd), .ref o]) (n := 6) (Nat.le_of_ble_eq_true rfl)
  rw [lg_entry_eq]
  generalize (lg_sl ([.ref (q 0), .int (iZ z1), .int (iZ mo), .int (iZ dd), .ref o]) ++ List.replicate (6 - (lg_sl ([.ref (q 0), .int (iZ z1), .int (iZ mo), .int (iZ dd), .ref o])).length) Slot.unset).toArray = ls at hl ⊢
  have hl : lv_has ls 6 [(0, .ref (q 0)), (1, .int (iZ z1)), (2, .int (iZ mo)), (3, .int (iZ dd)), (4, .ref o)] := hl
  have hTab := vx_table (x := yL_feast) B (hts _ List.mem_cons_self)
  refine lv_aload hx hb dL_feast_0 (lv_at hl 4 rfl) ?_
  refine lv_aload_n hx hb dL_feast_2 rfl (lv_at hl 0 rfl) ?_
  refine lv_iload_n hx hb dL_feast_3 rfl (lv_at hl 1 rfl) ?_
  refine lv_iload_n hx hb dL_feast_4 rfl (lv_at hl 2 rfl) ?_
  refine lv_iload_n hx hb dL_feast_5 rfl (lv_at hl 3 rfl) ?_
  refine kcxc (vx_runV (As := [.int (iZ z1), .int (iZ mo), .int (iZ dd)]) (rest := [.ref o]) ⟨hx, hb, hml, hown, hts⟩ (c_X1_feast l hst dC dI dA k q σ _ hG hOK hq z1 mo dd rz1 rmo rdd) (cwV 3 hts (kg_V mw783 mw784 mw785 mw42 rfl mw786) rfl rfl rfl hdV_X1_feast ⟨Nat.le_of_ble_eq_true rfl, Nat.le_of_ble_eq_true rfl⟩) ⟨fun a U g mk q => ⟨q.1, q.2.1, kM_call q.2.2⟩, va_recv hM.1 hPx (ci := 4) (q0 := 0) rfl rfl, fun U hU hW => ⟨rfl, hU, kM_kept hM hS hAN hU hW⟩⟩ rfl rfl hl.1 rfl (lv_room (Nat.le_of_ble_eq_true rfl)) dL_feast_6 ⟨Nat.le_of_ble_eq_true rfl, Nat.le_of_ble_eq_true rfl⟩) hS (fun a _ h => Or.inl h) (fun a h => Or.inl h) (fun E ce q9 H1 locs hE hy9 hk9 hS hce hcv hcl => ?_) (fun H1 locs hG1 hE hy9 hk9 hS => ?_)
  · have hG9 : gX dC dI dA q σ H1 := gX_kept hG (fun i _ h => hk9 _ h)
    have hO8 := hO.kept (H1 := H1) (fun i p hp => hk9 _ (hO i p hp).lt)
    rcases hE with ⟨hE, rfl⟩ | ⟨hE, rfl⟩
    · refine vx_catch (own := RL) (name := "java/lang/IndexOutOfBoundsException") hown [] ⟨0, 13, 16, 19⟩ [⟨0, 13, 20, 21⟩] hTab (fun z h => absurd h List.not_mem_nil) (by decide) (by decide) (hts _ (List.mem_cons_of_mem _ mw604)) (va_Nw.use rfl hL.2.2.1) hce hcv hcl ?_
      refine lv_astore (lv' := [(5, .ref q9), (0, .ref (q 0)), (1, .int (iZ z1)), (2, .int (iZ mo)), (3, .int (iZ dd)), (4, .ref o)]) hx hb dL_feast_16 hl (by decide) rfl (fun ls hl => ?_)
      refine lv_iconst (v := iZ 1) hx hb dL_feast_18 rfl ?_
      refine W.widen (k := 3) (n := 18) (Nat.le_of_ble_eq_true rfl) (Nat.le_of_ble_eq_true rfl) ?_
      exact W.iret (v := iZ 1) hx hb hr (fun t ht hW => ⟨⟨congrArg (fun z : Int => Outcome.returned (some (Value.int (iZ z)))) (show 1 = ex2 (!inb z1 0 3) (!inb mo 1 12 || !inb dd 1 31) from hE.symm), by rw [ht]; exact ⟨gX_cast hG9 (if_neg (by rw [hE]; decide)).symm, sn, sv, fun z => absurd z (by rw [hE]; decide), hO8⟩⟩, hS.F ht⟩) hS.2.2 dL_feast_19 hlocks
    · refine vx_catch (own := RL) (name := "java/lang/IllegalArgumentException") hown [⟨0, 13, 16, 19⟩] ⟨0, 13, 20, 21⟩ [] hTab (fun z h => by cases List.mem_singleton.mp h; exact Or.inr ⟨by decide, "java/lang/IndexOutOfBoundsException", (hts _ (List.mem_cons_of_mem _ mw604)), hM.2.1.2.2.2.2.2.2.2.2.2.2.2⟩) (by decide) (by decide) (hts _ (List.mem_cons_of_mem _ mw605)) (va_Nw.use rfl hL.2.2.2) hce hcv hcl ?_
      refine lv_astore (lv' := [(5, .ref q9), (0, .ref (q 0)), (1, .int (iZ z1)), (2, .int (iZ mo)), (3, .int (iZ dd)), (4, .ref o)]) hx hb dL_feast_20 hl (by decide) rfl (fun ls hl => ?_)
      refine lv_iconst (v := iZ 2) hx hb dL_feast_22 rfl ?_
      refine W.widen (k := 3) (n := 18) (Nat.le_of_ble_eq_true rfl) (Nat.le_of_ble_eq_true rfl) ?_
      exact W.iret (v := iZ 2) hx hb hr (fun t ht hW => ⟨⟨congrArg (fun z : Int => Outcome.returned (some (Value.int (iZ z)))) (show 2 = ex2 (!inb z1 0 3) (!inb mo 1 12 || !inb dd 1 31) from hE.symm), by rw [ht]; exact ⟨gX_cast hG9 (if_neg (by rw [hE]; decide)).symm, sn, sv, fun z => absurd z (by rw [hE]; decide), hO8⟩⟩, hS.F ht⟩) hS.2.2 dL_feast_23 hlocks
  obtain ⟨tb1, tn1, tm1, htn1, hfit1, htm1, hP1⟩ := hG1
  have hPO := hP1.app (hO.kept (H1 := H1) (fun i p hp => hk9 _ (hO i p hp).lt (by match i, hp with | 0, hp => cases hp; exact hno (hO 0 _ rfl).lt | n + 1, hp => cases hp)))
  generalize H1 = H at hPO hS ⊢
  clear hk9 hy9
  refine kz_w32 ?_
  refine kz_i2l hx hb (w32_rng _) dL_feast_9 ?_
  refine va_putN (D := (dC, dI)) (ci := 5) (v := .long (lZ ((w32 (if putFr mo dd = true then bZ (decide (mo ≠ 2 ∨ dd ≤ 28)) else -9))))) (ty := .long) (C := RX2) (T := TX2) (N := 2) hx hb hts (fun w h => List.mem_cons_of_mem _ (gF_1_in h)) tyX2 tyX2_ok nmX2 hown hM.1 hPO (kXO_D hq ho9) hS 9 rfl rfl 0 (by decide) (va_Nw.use rfl hL.1) (fun _ h9 => h9) rfl (by decide +kernel) rfl rfl (Nat.le_of_ble_eq_true rfl) dL_feast_10 (fun H locs hPO hD hS => ?_)
  refine lv_goto (tgt := 24) hx hb dL_feast_13 (by decide) ?_
  refine lv_iconst (v := iZ 0) hx hb dL_feast_24 rfl ?_
  refine W.widen (k := 3) (n := 18) (Nat.le_of_ble_eq_true rfl) (Nat.le_of_ble_eq_true rfl) ?_
  exact W.iret (v := iZ 0) hx hb hr (fun t ht hW => ⟨⟨congrArg (fun z : Int => Outcome.returned (some (Value.int (iZ z)))) (show 0 = ex2 (!inb z1 0 3) (!inb mo 1 12 || !inb dd 1 31) from hE.symm), by rw [ht]; exact ⟨gX_cast ⟨tb1, tn1, tm1, htn1, hfit1, htm1, va_Pl (a := kX q dA (putFs σ (z1.toNat) mo dd) tb1 (nI tn1) tm1) hPO⟩ (if_pos hE).symm, _, _, fun _ => rfl, va_Pr (a := kX q dA (putFs σ (z1.toNat) mo dd) tb1 (nI tn1) tm1) hPO⟩⟩, hS.F ht⟩) hS.2.2 dL_feast_25 hlocks

abbrev ww_L_feastRound : List Cond := .codeWith yL_feastRound cL_feastRound 6 (some .int) [(0, 13, 16, 19), (0, 13, 20, 21)] :: gT
set_option maxHeartbeats 4000000 in
set_option maxRecDepth 100000 in
theorem c_L_feastRound (l : Launch) (hst : l.stackTraces = false) (dC : Nat → ClassId) (dI : Nat → Nat → Nat) (dA : Nat → ClassId) (k : Nat → Nat) (q : Nat → Nat) (σ : Nat → Nat → Int) (H0 : Heap) (hG : gX dC dI dA q σ H0) (hOK : kOK σ) (hq : kQI q k) (o : Nat) (sn : Int) (sv : Value) (hO : va_P (dC, dI) vwCl [(o, .inr (5, [.long (lZ sn), sv]))] H0) (hko : k 0 ≤ o) (ho9 : ∀ i : Nat, i < 9 → q i ≠ o) (z1 : Int) (mm : Int) (dd : Int) (rz1 : -2147483648 ≤ z1 ∧ z1 < 2147483648) (rmm : -2147483648 ≤ mm ∧ mm < 2147483648) (rdd : -2147483648 ≤ dd ∧ dd < 2147483648) : Met l yL_feastRound ww_L_feastRound ({ frames := 11, cells := 2, slots := 12, locals := 366 }) (va_Pc [.ref (q 0), .int (iZ z1), .int (iZ mm), .int (iZ dd), .ref o] (fun U => U.heap = H0 ∧ kMJ dC dI dA k U ∧ kL U)) (kQ2 (some (.int (iZ (ex2 (!inb z1 0 3) (!inb dd 1 31))))) (fun H => gX dC dI dA q (if ex2 (!inb z1 0 3) (!inb dd 1 31) = 0 then (putFs σ (z1.toNat) (1 + mm % 12) dd) else σ) H ∧ gO dC dI o (fun n => ex2 (!inb z1 0 3) (!inb dd 1 31) = 0 → n = w32 (if putFr (1 + mm % 12) dd = true then 1 + mm % 12 else -9)) H) (kAO q o H0.size)) 2 12 (kAO q o H0.size) := by
  refine k_ofWH (cc := cL_feastRound) (maxL := 6) (ret := (some .int)) (hh := [(0, 13, 16, 19), (0, 13, 20, 21)]) (by decide) rfl ?_
  intro p e s m args below meth c s₁ B hml hv
  obtain ⟨rfl, hH, hMJ, hL⟩ := hv
  subst hH
  have hM := hMJ.1
  have hAN : ∀ a, kAO q o s.heap.size a → k 0 ≤ a := kAO_N hq hko hM.2.1.1
  have hS : va_S (kAO q o s.heap.size) s.heap s.heap [] := va_S.rf
  have hno : o < s.heap.size → ¬ kA q s.heap.size o := fun h z => z.elim (fun ⟨i, hi, e9⟩ => ho9 i hi e9.symm) (fun y => absurd h (Nat.not_lt.mpr y))
  obtain ⟨tb, tn, tm, htn, hfit, htm, hPx⟩ := id hG
  have hx := B.exec
  have hb := B.bytes
  have hr := B.returns
  have hts := atoms_spec (ws := ww_L_feastRound) B.pre
  have hown : s.vm.findClass RL = some m.cls := findClass_of_methodNamed B.named
  have hlocks := B.notSynchronized
  have hl := lv_entry ([.ref (q 0), .int (iZ z1), .int (iZ mm), .int (iZ dd), .ref o]) (n := 6) (Nat.le_of_ble_eq_true rfl)
  rw [lg_entry_eq]
  generalize (lg_sl ([.ref (q 0), .int (iZ z1), .int (iZ mm), .int (iZ dd), .ref o]) ++ List.replicate (6 - (lg_sl ([.ref (q 0), .int (iZ z1), .int (iZ mm), .int (iZ dd), .ref o])).length) Slot.unset).toArray = ls at hl ⊢
  have hl : lv_has ls 6 [(0, .ref (q 0)), (1, .int (iZ z1)), (2, .int (iZ mm)), (3, .int (iZ dd)), (4, .ref o)] := hl
  have hTab := vx_table (x := yL_feastRound) B (hts _ List.mem_cons_self)
  refine lv_aload hx hb dL_feastRound_0 (lv_at hl 4 rfl) ?_
  refine lv_aload_n hx hb dL_feastRound_2 rfl (lv_at hl 0 rfl) ?_
  refine lv_iload_n hx hb dL_feastRound_3 rfl (lv_at hl 1 rfl) ?_
  refine lv_iload_n hx hb dL_feastRound_4 rfl (lv_at hl 2 rfl) ?_
  refine lv_iload_n hx hb dL_feastRound_5 rfl (lv_at hl 3 rfl) ?_
  refine kcxc (vx_runV (As := [.int (iZ z1), .int (iZ mm), .int (iZ dd)]) (rest := [.ref o]) ⟨hx, hb, hml, hown, hts⟩ (c_X1_feastRound l hst dC dI dA k q σ _ hG hOK hq z1 mm dd rz1 rmm rdd) (cwV 3 hts (kg_V mw796 mw797 mw798 mw42 rfl mw799) rfl rfl rfl hdV_X1_feastRound ⟨Nat.le_of_ble_eq_true rfl, Nat.le_of_ble_eq_true rfl⟩) ⟨fun a U g mk q => ⟨q.1, q.2.1, kM_call q.2.2⟩, va_recv hM.1 hPx (ci := 4) (q0 := 0) rfl rfl, fun U hU hW => ⟨rfl, hU, kM_kept hM hS hAN hU hW⟩⟩ rfl rfl hl.1 rfl (lv_room (Nat.le_of_ble_eq_true rfl)) dL_feastRound_6 ⟨Nat.le_of_ble_eq_true rfl, Nat.le_of_ble_eq_true rfl⟩) hS (fun a _ h => Or.inl h) (fun a h => Or.inl h) (fun E ce q9 H1 locs hE hy9 hk9 hS hce hcv hcl => ?_) (fun H1 locs hG1 hE hy9 hk9 hS => ?_)
  · have hG9 : gX dC dI dA q σ H1 := gX_kept hG (fun i _ h => hk9 _ h)
    have hO8 := hO.kept (H1 := H1) (fun i p hp => hk9 _ (hO i p hp).lt)
    rcases hE with ⟨hE, rfl⟩ | ⟨hE, rfl⟩
    · refine vx_catch (own := RL) (name := "java/lang/IndexOutOfBoundsException") hown [] ⟨0, 13, 16, 19⟩ [⟨0, 13, 20, 21⟩] hTab (fun z h => absurd h List.not_mem_nil) (by decide) (by decide) (hts _ (List.mem_cons_of_mem _ mw604)) (va_Nw.use rfl hL.2.2.1) hce hcv hcl ?_
      refine lv_astore (lv' := [(5, .ref q9), (0, .ref (q 0)), (1, .int (iZ z1)), (2, .int (iZ mm)), (3, .int (iZ dd)), (4, .ref o)]) hx hb dL_feastRound_16 hl (by decide) rfl (fun ls hl => ?_)
      refine lv_iconst (v := iZ 1) hx hb dL_feastRound_18 rfl ?_
      refine W.widen (k := 2) (n := 12) (Nat.le_of_ble_eq_true rfl) (Nat.le_of_ble_eq_true rfl) ?_
      exact W.iret (v := iZ 1) hx hb hr (fun t ht hW => ⟨⟨congrArg (fun z : Int => Outcome.returned (some (Value.int (iZ z)))) (show 1 = ex2 (!inb z1 0 3) (!inb dd 1 31) from hE.symm), by rw [ht]; exact ⟨gX_cast hG9 (if_neg (by rw [hE]; decide)).symm, sn, sv, fun z => absurd z (by rw [hE]; decide), hO8⟩⟩, hS.F ht⟩) hS.2.2 dL_feastRound_19 hlocks
    · refine vx_catch (own := RL) (name := "java/lang/IllegalArgumentException") hown [⟨0, 13, 16, 19⟩] ⟨0, 13, 20, 21⟩ [] hTab (fun z h => by cases List.mem_singleton.mp h; exact Or.inr ⟨by decide, "java/lang/IndexOutOfBoundsException", (hts _ (List.mem_cons_of_mem _ mw604)), hM.2.1.2.2.2.2.2.2.2.2.2.2.2⟩) (by decide) (by decide) (hts _ (List.mem_cons_of_mem _ mw605)) (va_Nw.use rfl hL.2.2.2) hce hcv hcl ?_
      refine lv_astore (lv' := [(5, .ref q9), (0, .ref (q 0)), (1, .int (iZ z1)), (2, .int (iZ mm)), (3, .int (iZ dd)), (4, .ref o)]) hx hb dL_feastRound_20 hl (by decide) rfl (fun ls hl => ?_)
      refine lv_iconst (v := iZ 2) hx hb dL_feastRound_22 rfl ?_
      refine W.widen (k := 2) (n := 12) (Nat.le_of_ble_eq_true rfl) (Nat.le_of_ble_eq_true rfl) ?_
      exact W.iret (v := iZ 2) hx hb hr (fun t ht hW => ⟨⟨congrArg (fun z : Int => Outcome.returned (some (Value.int (iZ z)))) (show 2 = ex2 (!inb z1 0 3) (!inb dd 1 31) from hE.symm), by rw [ht]; exact ⟨gX_cast hG9 (if_neg (by rw [hE]; decide)).symm, sn, sv, fun z => absurd z (by rw [hE]; decide), hO8⟩⟩, hS.F ht⟩) hS.2.2 dL_feastRound_23 hlocks
  obtain ⟨tb1, tn1, tm1, htn1, hfit1, htm1, hP1⟩ := hG1
  have hPO := hP1.app (hO.kept (H1 := H1) (fun i p hp => hk9 _ (hO i p hp).lt (by match i, hp with | 0, hp => cases hp; exact hno (hO 0 _ rfl).lt | n + 1, hp => cases hp)))
  generalize H1 = H at hPO hS ⊢
  clear hk9 hy9
  refine kz_w32 ?_
  refine kz_i2l hx hb (w32_rng _) dL_feastRound_9 ?_
  refine va_putN (D := (dC, dI)) (ci := 5) (v := .long (lZ ((w32 (if putFr (1 + mm % 12) dd = true then 1 + mm % 12 else -9))))) (ty := .long) (C := RX2) (T := TX2) (N := 2) hx hb hts (fun w h => List.mem_cons_of_mem _ (gF_1_in h)) tyX2 tyX2_ok nmX2 hown hM.1 hPO (kXO_D hq ho9) hS 9 rfl rfl 0 (by decide) (va_Nw.use rfl hL.1) (fun _ h9 => h9) rfl (by decide +kernel) rfl rfl (Nat.le_of_ble_eq_true rfl) dL_feastRound_10 (fun H locs hPO hD hS => ?_)
  refine lv_goto (tgt := 24) hx hb dL_feastRound_13 (by decide) ?_
  refine lv_iconst (v := iZ 0) hx hb dL_feastRound_24 rfl ?_
  refine W.widen (k := 2) (n := 12) (Nat.le_of_ble_eq_true rfl) (Nat.le_of_ble_eq_true rfl) ?_
  exact W.iret (v := iZ 0) hx hb hr (fun t ht hW => ⟨⟨congrArg (fun z : Int => Outcome.returned (some (Value.int (iZ z)))) (show 0 = ex2 (!inb z1 0 3) (!inb dd 1 31) from hE.symm), by rw [ht]; exact ⟨gX_cast ⟨tb1, tn1, tm1, htn1, hfit1, htm1, va_Pl (a := kX q dA (putFs σ (z1.toNat) (1 + mm % 12) dd) tb1 (nI tn1) tm1) hPO⟩ (if_pos hE).symm, _, _, fun _ => rfl, va_Pr (a := kX q dA (putFs σ (z1.toNat) (1 + mm % 12) dd) tb1 (nI tn1) tm1) hPO⟩⟩, hS.F ht⟩) hS.2.2 dL_feastRound_25 hlocks

abbrev ww_L_feastMonth : List Cond := .codeWith yL_feastMonth cL_feastMonth 6 (some .int) [(0, 13, 16, 19), (0, 13, 20, 21)] :: gT
set_option maxHeartbeats 4000000 in
set_option maxRecDepth 100000 in
theorem c_L_feastMonth (l : Launch) (hst : l.stackTraces = false) (dC : Nat → ClassId) (dI : Nat → Nat → Nat) (dA : Nat → ClassId) (k : Nat → Nat) (q : Nat → Nat) (σ : Nat → Nat → Int) (H0 : Heap) (hG : gX dC dI dA q σ H0) (hOK : kOK σ) (hq : kQI q k) (o : Nat) (sn : Int) (sv : Value) (hO : va_P (dC, dI) vwCl [(o, .inr (5, [.long (lZ sn), sv]))] H0) (hko : k 0 ≤ o) (ho9 : ∀ i : Nat, i < 9 → q i ≠ o) (z1 : Int) (mo : Int) (bb : Bool) (rz1 : -2147483648 ≤ z1 ∧ z1 < 2147483648) (rmo : -2147483648 ≤ mo ∧ mo < 2147483648) : Met l yL_feastMonth ww_L_feastMonth ({ frames := 11, cells := 2, slots := 12, locals := 366 }) (va_Pc [.ref (q 0), .int (iZ z1), .int (iZ mo), .int (iZ (bZ (bb))), .ref o] (fun U => U.heap = H0 ∧ kMJ dC dI dA k U ∧ kL U)) (kQ2 (some (.int (iZ (ex2 (!inb z1 0 3) (!inb mo 1 12))))) (fun H => gX dC dI dA q (if ex2 (!inb z1 0 3) (!inb mo 1 12) = 0 then (putFs σ (z1.toNat) mo (mn2 (σ 4 (z1.toNat)) (mlen true mo))) else σ) H ∧ gO dC dI o (fun n => ex2 (!inb z1 0 3) (!inb mo 1 12) = 0 → n = w32 (mn2 (σ 4 (z1.toNat)) (mlen true mo))) H) (kAO q o H0.size)) 2 12 (kAO q o H0.size) := by
  refine k_ofWH (cc := cL_feastMonth) (maxL := 6) (ret := (some .int)) (hh := [(0, 13, 16, 19), (0, 13, 20, 21)]) (by decide) rfl ?_
  intro p e s m args below meth c s₁ B hml hv
  obtain ⟨rfl, hH, hMJ, hL⟩ := hv
  subst hH
  have hM := hMJ.1
  have hAN : ∀ a, kAO q o s.heap.size a → k 0 ≤ a := kAO_N hq hko hM.2.1.1
  have hS : va_S (kAO q o s.heap.size) s.heap s.heap [] := va_S.rf
  have hno : o < s.heap.size → ¬ kA q s.heap.size o := fun h z => z.elim (fun ⟨i, hi, e9⟩ => ho9 i hi e9.symm) (fun y => absurd h (Nat.not_lt.mpr y))
  obtain ⟨tb, tn, tm, htn, hfit, htm, hPx⟩ := id hG
  have hx := B.exec
  have hb := B.bytes
  have hr := B.returns
  have hts := atoms_spec (ws := ww_L_feastMonth) B.pre
  have hown : s.vm.findClass RL = some m.cls := findClass_of_methodNamed B.named
  have hlocks := B.notSynchronized
  have hl := lv_entry ([.ref (q 0), .int (iZ z1), .int (iZ mo), .int (iZ (bZ (bb))), .ref o]) (n := 6) (Nat.le_of_ble_eq_true rfl)
  rw [lg_entry_eq]
  generalize (lg_sl ([.ref (q 0), .int (iZ z1), .int (iZ mo), .int (iZ (bZ (bb))), .ref o]) ++ List.replicate (6 - (lg_sl ([.ref (q 0), .int (iZ z1), .int (iZ mo), .int (iZ (bZ (bb))), .ref o])).length) Slot.unset).toArray = ls at hl ⊢
  have hl : lv_has ls 6 [(0, .ref (q 0)), (1, .int (iZ z1)), (2, .int (iZ mo)), (3, .int (iZ (bZ (bb)))), (4, .ref o)] := hl
  have hTab := vx_table (x := yL_feastMonth) B (hts _ List.mem_cons_self)
  refine lv_aload hx hb dL_feastMonth_0 (lv_at hl 4 rfl) ?_
  refine lv_aload_n hx hb dL_feastMonth_2 rfl (lv_at hl 0 rfl) ?_
  refine lv_iload_n hx hb dL_feastMonth_3 rfl (lv_at hl 1 rfl) ?_
  refine lv_iload_n hx hb dL_feastMonth_4 rfl (lv_at hl 2 rfl) ?_
  refine lv_iload_n hx hb dL_feastMonth_5 rfl (lv_at hl 3 rfl) ?_
  refine kcxc (vx_runV (As := [.int (iZ z1), .int (iZ mo), .int (iZ (bZ (bb)))]) (rest := [.ref o]) ⟨hx, hb, hml, hown, hts⟩ (c_X1_feastMonth l hst dC dI dA k q σ _ hG hOK hq z1 mo bb rz1 rmo) (cwV 3 hts (kg_V mw803 mw804 mw805 mw42 rfl mw806) rfl rfl rfl hdV_X1_feastMonth ⟨Nat.le_of_ble_eq_true rfl, Nat.le_of_ble_eq_true rfl⟩) ⟨fun a U g mk q => ⟨q.1, q.2.1, kM_call q.2.2⟩, va_recv hM.1 hPx (ci := 4) (q0 := 0) rfl rfl, fun U hU hW => ⟨rfl, hU, kM_kept hM hS hAN hU hW⟩⟩ rfl rfl hl.1 rfl (lv_room (Nat.le_of_ble_eq_true rfl)) dL_feastMonth_6 ⟨Nat.le_of_ble_eq_true rfl, Nat.le_of_ble_eq_true rfl⟩) hS (fun a _ h => Or.inl h) (fun a h => Or.inl h) (fun E ce q9 H1 locs hE hy9 hk9 hS hce hcv hcl => ?_) (fun H1 locs hG1 hE hy9 hk9 hS => ?_)
  · have hG9 : gX dC dI dA q σ H1 := gX_kept hG (fun i _ h => hk9 _ h)
    have hO8 := hO.kept (H1 := H1) (fun i p hp => hk9 _ (hO i p hp).lt)
    rcases hE with ⟨hE, rfl⟩ | ⟨hE, rfl⟩
    · refine vx_catch (own := RL) (name := "java/lang/IndexOutOfBoundsException") hown [] ⟨0, 13, 16, 19⟩ [⟨0, 13, 20, 21⟩] hTab (fun z h => absurd h List.not_mem_nil) (by decide) (by decide) (hts _ (List.mem_cons_of_mem _ mw604)) (va_Nw.use rfl hL.2.2.1) hce hcv hcl ?_
      refine lv_astore (lv' := [(5, .ref q9), (0, .ref (q 0)), (1, .int (iZ z1)), (2, .int (iZ mo)), (3, .int (iZ (bZ (bb)))), (4, .ref o)]) hx hb dL_feastMonth_16 hl (by decide) rfl (fun ls hl => ?_)
      refine lv_iconst (v := iZ 1) hx hb dL_feastMonth_18 rfl ?_
      refine W.widen (k := 2) (n := 12) (Nat.le_of_ble_eq_true rfl) (Nat.le_of_ble_eq_true rfl) ?_
      exact W.iret (v := iZ 1) hx hb hr (fun t ht hW => ⟨⟨congrArg (fun z : Int => Outcome.returned (some (Value.int (iZ z)))) (show 1 = ex2 (!inb z1 0 3) (!inb mo 1 12) from hE.symm), by rw [ht]; exact ⟨gX_cast hG9 (if_neg (by rw [hE]; decide)).symm, sn, sv, fun z => absurd z (by rw [hE]; decide), hO8⟩⟩, hS.F ht⟩) hS.2.2 dL_feastMonth_19 hlocks
    · refine vx_catch (own := RL) (name := "java/lang/IllegalArgumentException") hown [⟨0, 13, 16, 19⟩] ⟨0, 13, 20, 21⟩ [] hTab (fun z h => by cases List.mem_singleton.mp h; exact Or.inr ⟨by decide, "java/lang/IndexOutOfBoundsException", (hts _ (List.mem_cons_of_mem _ mw604)), hM.2.1.2.2.2.2.2.2.2.2.2.2.2⟩) (by decide) (by decide) (hts _ (List.mem_cons_of_mem _ mw605)) (va_Nw.use rfl hL.2.2.2) hce hcv hcl ?_
      refine lv_astore (lv' := [(5, .ref q9), (0, .ref (q 0)), (1, .int (iZ z1)), (2, .int (iZ mo)), (3, .int (iZ (bZ (bb)))), (4, .ref o)]) hx hb dL_feastMonth_20 hl (by decide) rfl (fun ls hl => ?_)
      refine lv_iconst (v := iZ 2) hx hb dL_feastMonth_22 rfl ?_
      refine W.widen (k := 2) (n := 12) (Nat.le_of_ble_eq_true rfl) (Nat.le_of_ble_eq_true rfl) ?_
      exact W.iret (v := iZ 2) hx hb hr (fun t ht hW => ⟨⟨congrArg (fun z : Int => Outcome.returned (some (Value.int (iZ z)))) (show 2 = ex2 (!inb z1 0 3) (!inb mo 1 12) from hE.symm), by rw [ht]; exact ⟨gX_cast hG9 (if_neg (by rw [hE]; decide)).symm, sn, sv, fun z => absurd z (by rw [hE]; decide), hO8⟩⟩, hS.F ht⟩) hS.2.2 dL_feastMonth_23 hlocks
  obtain ⟨tb1, tn1, tm1, htn1, hfit1, htm1, hP1⟩ := hG1
  have hPO := hP1.app (hO.kept (H1 := H1) (fun i p hp => hk9 _ (hO i p hp).lt (by match i, hp with | 0, hp => cases hp; exact hno (hO 0 _ rfl).lt | n + 1, hp => cases hp)))
  generalize H1 = H at hPO hS ⊢
  clear hk9 hy9
  refine kz_w32 ?_
  refine kz_i2l hx hb (w32_rng _) dL_feastMonth_9 ?_
  refine va_putN (D := (dC, dI)) (ci := 5) (v := .long (lZ ((w32 (mn2 (σ 4 (z1.toNat)) (mlen true mo)))))) (ty := .long) (C := RX2) (T := TX2) (N := 2) hx hb hts (fun w h => List.mem_cons_of_mem _ (gF_1_in h)) tyX2 tyX2_ok nmX2 hown hM.1 hPO (kXO_D hq ho9) hS 9 rfl rfl 0 (by decide) (va_Nw.use rfl hL.1) (fun _ h9 => h9) rfl (by decide +kernel) rfl rfl (Nat.le_of_ble_eq_true rfl) dL_feastMonth_10 (fun H locs hPO hD hS => ?_)
  refine lv_goto (tgt := 24) hx hb dL_feastMonth_13 (by decide) ?_
  refine lv_iconst (v := iZ 0) hx hb dL_feastMonth_24 rfl ?_
  refine W.widen (k := 2) (n := 12) (Nat.le_of_ble_eq_true rfl) (Nat.le_of_ble_eq_true rfl) ?_
  exact W.iret (v := iZ 0) hx hb hr (fun t ht hW => ⟨⟨congrArg (fun z : Int => Outcome.returned (some (Value.int (iZ z)))) (show 0 = ex2 (!inb z1 0 3) (!inb mo 1 12) from hE.symm), by rw [ht]; exact ⟨gX_cast ⟨tb1, tn1, tm1, htn1, hfit1, htm1, va_Pl (a := kX q dA (putFs σ (z1.toNat) mo (mn2 (σ 4 (z1.toNat)) (mlen true mo))) tb1 (nI tn1) tm1) hPO⟩ (if_pos hE).symm, _, _, fun _ => rfl, va_Pr (a := kX q dA (putFs σ (z1.toNat) mo (mn2 (σ 4 (z1.toNat)) (mlen true mo))) tb1 (nI tn1) tm1) hPO⟩⟩, hS.F ht⟩) hS.2.2 dL_feastMonth_25 hlocks

abbrev ww_L_feastDay : List Cond := .codeWith yL_feastDay cL_feastDay 6 (some .int) [(0, 13, 16, 19), (0, 13, 20, 21)] :: gT
set_option maxHeartbeats 4000000 in
set_option maxRecDepth 100000 in
theorem c_L_feastDay (l : Launch) (hst : l.stackTraces = false) (dC : Nat → ClassId) (dI : Nat → Nat → Nat) (dA : Nat → ClassId) (k : Nat → Nat) (q : Nat → Nat) (σ : Nat → Nat → Int) (H0 : Heap) (hG : gX dC dI dA q σ H0) (hOK : kOK σ) (hq : kQI q k) (o : Nat) (sn : Int) (sv : Value) (hO : va_P (dC, dI) vwCl [(o, .inr (5, [.long (lZ sn), sv]))] H0) (hko : k 0 ≤ o) (ho9 : ∀ i : Nat, i < 9 → q i ≠ o) (z1 : Int) (dd : Int) (bb : Bool) (rz1 : -2147483648 ≤ z1 ∧ z1 < 2147483648) (rdd : -2147483648 ≤ dd ∧ dd < 2147483648) : Met l yL_feastDay ww_L_feastDay ({ frames := 11, cells := 2, slots := 12, locals := 366 }) (va_Pc [.ref (q 0), .int (iZ z1), .int (iZ dd), .int (iZ (bZ (bb))), .ref o] (fun U => U.heap = H0 ∧ kMJ dC dI dA k U ∧ kL U)) (kQ2 (some (.int (iZ (ex2 (!inb z1 0 3) (!inb dd 1 31))))) (fun H => gX dC dI dA q (if ex2 (!inb z1 0 3) (!inb dd 1 31) = 0 then (putFs σ (z1.toNat) (σ 3 (z1.toNat)) dd) else σ) H ∧ gO dC dI o (fun n => ex2 (!inb z1 0 3) (!inb dd 1 31) = 0 → n = w32 (if putFr (σ 3 (z1.toNat)) dd = true then σ 4 (z1.toNat) else -9)) H) (kAO q o H0.size)) 2 12 (kAO q o H0.size) := by
  refine k_ofWH (cc := cL_feastDay) (maxL := 6) (ret := (some .int)) (hh := [(0, 13, 16, 19), (0, 13, 20, 21)]) (by decide) rfl ?_
  intro p e s m args below meth c s₁ B hml hv
  obtain ⟨rfl, hH, hMJ, hL⟩ := hv
  subst hH
  have hM := hMJ.1
  have hAN : ∀ a, kAO q o s.heap.size a → k 0 ≤ a := kAO_N hq hko hM.2.1.1
  have hS : va_S (kAO q o s.heap.size) s.heap s.heap [] := va_S.rf
  have hno : o < s.heap.size → ¬ kA q s.heap.size o := fun h z => z.elim (fun ⟨i, hi, e9⟩ => ho9 i hi e9.symm) (fun y => absurd h (Nat.not_lt.mpr y))
  obtain ⟨tb, tn, tm, htn, hfit, htm, hPx⟩ := id hG
  have hx := B.exec
  have hb := B.bytes
  have hr := B.returns
  have hts := atoms_spec (ws := ww_L_feastDay) B.pre
  have hown : s.vm.findClass RL = some m.cls := findClass_of_methodNamed B.named
  have hlocks := B.notSynchronized
  have hl := lv_entry ([.ref (q 0), .int (iZ z1), .int (iZ dd), .int (iZ (bZ (bb))), .ref o]) (n := 6) (Nat.le_of_ble_eq_true rfl)
  rw [lg_entry_eq]
  generalize (lg_sl ([.ref (q 0), .int (iZ z1), .int (iZ dd), .int (iZ (bZ (bb))), .ref o]) ++ List.replicate (6 - (lg_sl ([.ref (q 0), .int (iZ z1), .int (iZ dd), .int (iZ (bZ (bb))), .ref o])).length) Slot.unset).toArray = ls at hl ⊢
  have hl : lv_has ls 6 [(0, .ref (q 0)), (1, .int (iZ z1)), (2, .int (iZ dd)), (3, .int (iZ (bZ (bb)))), (4, .ref o)] := hl
  have hTab := vx_table (x := yL_feastDay) B (hts _ List.mem_cons_self)
  refine lv_aload hx hb dL_feastDay_0 (lv_at hl 4 rfl) ?_
  refine lv_aload_n hx hb dL_feastDay_2 rfl (lv_at hl 0 rfl) ?_
  refine lv_iload_n hx hb dL_feastDay_3 rfl (lv_at hl 1 rfl) ?_
  refine lv_iload_n hx hb dL_feastDay_4 rfl (lv_at hl 2 rfl) ?_
  refine lv_iload_n hx hb dL_feastDay_5 rfl (lv_at hl 3 rfl) ?_
  refine kcxc (vx_runV (As := [.int (iZ z1), .int (iZ dd), .int (iZ (bZ (bb)))]) (rest := [.ref o]) ⟨hx, hb, hml, hown, hts⟩ (c_X1_feastDay l hst dC dI dA k q σ _ hG hOK hq z1 dd bb rz1 rdd) (cwV 3 hts (kg_V mw811 mw812 mw813 mw42 rfl mw814) rfl rfl rfl hdV_X1_feastDay ⟨Nat.le_of_ble_eq_true rfl, Nat.le_of_ble_eq_true rfl⟩) ⟨fun a U g mk q => ⟨q.1, q.2.1, kM_call q.2.2⟩, va_recv hM.1 hPx (ci := 4) (q0 := 0) rfl rfl, fun U hU hW => ⟨rfl, hU, kM_kept hM hS hAN hU hW⟩⟩ rfl rfl hl.1 rfl (lv_room (Nat.le_of_ble_eq_true rfl)) dL_feastDay_6 ⟨Nat.le_of_ble_eq_true rfl, Nat.le_of_ble_eq_true rfl⟩) hS (fun a _ h => Or.inl h) (fun a h => Or.inl h) (fun E ce q9 H1 locs hE hy9 hk9 hS hce hcv hcl => ?_) (fun H1 locs hG1 hE hy9 hk9 hS => ?_)
  · have hG9 : gX dC dI dA q σ H1 := gX_kept hG (fun i _ h => hk9 _ h)
    have hO8 := hO.kept (H1 := H1) (fun i p hp => hk9 _ (hO i p hp).lt)
    rcases hE with ⟨hE, rfl⟩ | ⟨hE, rfl⟩
    · refine vx_catch (own := RL) (name := "java/lang/IndexOutOfBoundsException") hown [] ⟨0, 13, 16, 19⟩ [⟨0, 13, 20, 21⟩] hTab (fun z h => absurd h List.not_mem_nil) (by decide) (by decide) (hts _ (List.mem_cons_of_mem _ mw604)) (va_Nw.use rfl hL.2.2.1) hce hcv hcl ?_
      refine lv_astore (lv' := [(5, .ref q9), (0, .ref (q 0)), (1, .int (iZ z1)), (2, .int (iZ dd)), (3, .int (iZ (bZ (bb)))), (4, .ref o)]) hx hb dL_feastDay_16 hl (by decide) rfl (fun ls hl => ?_)
      refine lv_iconst (v := iZ 1) hx hb dL_feastDay_18 rfl ?_
      refine W.widen (k := 2) (n := 12) (Nat.le_of_ble_eq_true rfl) (Nat.le_of_ble_eq_true rfl) ?_
      exact W.iret (v := iZ 1) hx hb hr (fun t ht hW => ⟨⟨congrArg (fun z : Int => Outcome.returned (some (Value.int (iZ z)))) (show 1 = ex2 (!inb z1 0 3) (!inb dd 1 31) from hE.symm), by rw [ht]; exact ⟨gX_cast hG9 (if_neg (by rw [hE]; decide)).symm, sn, sv, fun z => absurd z (by rw [hE]; decide), hO8⟩⟩, hS.F ht⟩) hS.2.2 dL_feastDay_19 hlocks
    · refine vx_catch (own := RL) (name := "java/lang/IllegalArgumentException") hown [⟨0, 13, 16, 19⟩] ⟨0, 13, 20, 21⟩ [] hTab (fun z h => by cases List.mem_singleton.mp h; exact Or.inr ⟨by decide, "java/lang/IndexOutOfBoundsException", (hts _ (List.mem_cons_of_mem _ mw604)), hM.2.1.2.2.2.2.2.2.2.2.2.2.2⟩) (by decide) (by decide) (hts _ (List.mem_cons_of_mem _ mw605)) (va_Nw.use rfl hL.2.2.2) hce hcv hcl ?_
      refine lv_astore (lv' := [(5, .ref q9), (0, .ref (q 0)), (1, .int (iZ z1)), (2, .int (iZ dd)), (3, .int (iZ (bZ (bb)))), (4, .ref o)]) hx hb dL_feastDay_20 hl (by decide) rfl (fun ls hl => ?_)
      refine lv_iconst (v := iZ 2) hx hb dL_feastDay_22 rfl ?_
      refine W.widen (k := 2) (n := 12) (Nat.le_of_ble_eq_true rfl) (Nat.le_of_ble_eq_true rfl) ?_
      exact W.iret (v := iZ 2) hx hb hr (fun t ht hW => ⟨⟨congrArg (fun z : Int => Outcome.returned (some (Value.int (iZ z)))) (show 2 = ex2 (!inb z1 0 3) (!inb dd 1 31) from hE.symm), by rw [ht]; exact ⟨gX_cast hG9 (if_neg (by rw [hE]; decide)).symm, sn, sv, fun z => absurd z (by rw [hE]; decide), hO8⟩⟩, hS.F ht⟩) hS.2.2 dL_feastDay_23 hlocks
  obtain ⟨tb1, tn1, tm1, htn1, hfit1, htm1, hP1⟩ := hG1
  have hPO := hP1.app (hO.kept (H1 := H1) (fun i p hp => hk9 _ (hO i p hp).lt (by match i, hp with | 0, hp => cases hp; exact hno (hO 0 _ rfl).lt | n + 1, hp => cases hp)))
  generalize H1 = H at hPO hS ⊢
  clear hk9 hy9
  refine kz_w32 ?_
  refine kz_i2l hx hb (w32_rng _) dL_feastDay_9 ?_
  refine va_putN (D := (dC, dI)) (ci := 5) (v := .long (lZ ((w32 (if putFr (σ 3 (z1.toNat)) dd = true then σ 4 (z1.toNat) else -9))))) (ty := .long) (C := RX2) (T := TX2) (N := 2) hx hb hts (fun w h => List.mem_cons_of_mem _ (gF_1_in h)) tyX2 tyX2_ok nmX2 hown hM.1 hPO (kXO_D hq ho9) hS 9 rfl rfl 0 (by decide) (va_Nw.use rfl hL.1) (fun _ h9 => h9) rfl (by decide +kernel) rfl rfl (Nat.le_of_ble_eq_true rfl) dL_feastDay_10 (fun H locs hPO hD hS => ?_)
  refine lv_goto (tgt := 24) hx hb dL_feastDay_13 (by decide) ?_
  refine lv_iconst (v := iZ 0) hx hb dL_feastDay_24 rfl ?_
  refine W.widen (k := 2) (n := 12) (Nat.le_of_ble_eq_true rfl) (Nat.le_of_ble_eq_true rfl) ?_
  exact W.iret (v := iZ 0) hx hb hr (fun t ht hW => ⟨⟨congrArg (fun z : Int => Outcome.returned (some (Value.int (iZ z)))) (show 0 = ex2 (!inb z1 0 3) (!inb dd 1 31) from hE.symm), by rw [ht]; exact ⟨gX_cast ⟨tb1, tn1, tm1, htn1, hfit1, htm1, va_Pl (a := kX q dA (putFs σ (z1.toNat) (σ 3 (z1.toNat)) dd) tb1 (nI tn1) tm1) hPO⟩ (if_pos hE).symm, _, _, fun _ => rfl, va_Pr (a := kX q dA (putFs σ (z1.toNat) (σ 3 (z1.toNat)) dd) tb1 (nI tn1) tm1) hPO⟩⟩, hS.F ht⟩) hS.2.2 dL_feastDay_25 hlocks

abbrev ww_L_feastOf : List Cond := .codeWith yL_feastOf cL_feastOf 5 (some .int) [(0, 11, 14, 19)] :: gT
set_option maxHeartbeats 4000000 in
set_option maxRecDepth 100000 in
theorem c_L_feastOf (l : Launch) (hst : l.stackTraces = false) (dC : Nat → ClassId) (dI : Nat → Nat → Nat) (dA : Nat → ClassId) (k : Nat → Nat) (q : Nat → Nat) (σ : Nat → Nat → Int) (H0 : Heap) (hG : gX dC dI dA q σ H0) (hOK : kOK σ) (hq : kQI q k) (o : Nat) (sn : Int) (sv : Value) (hO : va_P (dC, dI) vwCl [(o, .inr (5, [.long (lZ sn), sv]))] H0) (hko : k 0 ≤ o) (ho9 : ∀ i : Nat, i < 9 → q i ≠ o) (z1 : Int) (z2 : Int) (rz1 : -2147483648 ≤ z1 ∧ z1 < 2147483648) (rz2 : -2147483648 ≤ z2 ∧ z2 < 2147483648) : Met l yL_feastOf ww_L_feastOf ({ frames := 10, cells := 2, slots := 12, locals := 343 }) (va_Pc [.ref (q 0), .int (iZ z1), .int (iZ z2), .ref o] (fun U => U.heap = H0 ∧ kMJ dC dI dA k U ∧ kL U)) (kQ2 (some (.int (iZ (ex2 (!inb z1 0 3 || !inb z2 0 3) (false))))) (fun H => gX dC dI dA q (if ex2 (!inb z1 0 3 || !inb z2 0 3) (false) = 0 then (putFs σ (z1.toNat) (σ 6 (z2.toNat)) (σ 7 (z2.toNat))) else σ) H ∧ gO dC dI o (fun n => ex2 (!inb z1 0 3 || !inb z2 0 3) (false) = 0 → n = w32 (bZ (decide (σ 6 (z2.toNat) ≠ 2 ∨ σ 7 (z2.toNat) ≤ 28)))) H) (kAO q o H0.size)) 2 12 (kAO q o H0.size) := by
  refine k_ofWH (cc := cL_feastOf) (maxL := 5) (ret := (some .int)) (hh := [(0, 11, 14, 19)]) (by decide) rfl ?_
  intro p e s m args below meth c s₁ B hml hv
  obtain ⟨rfl, hH, hMJ, hL⟩ := hv
  subst hH
  have hM := hMJ.1
  have hAN : ∀ a, kAO q o s.heap.size a → k 0 ≤ a := kAO_N hq hko hM.2.1.1
  have hS : va_S (kAO q o s.heap.size) s.heap s.heap [] := va_S.rf
  have hno : o < s.heap.size → ¬ kA q s.heap.size o := fun h z => z.elim (fun ⟨i, hi, e9⟩ => ho9 i hi e9.symm) (fun y => absurd h (Nat.not_lt.mpr y))
  obtain ⟨tb, tn, tm, htn, hfit, htm, hPx⟩ := id hG
  have hx := B.exec
  have hb := B.bytes
  have hr := B.returns
  have hts := atoms_spec (ws := ww_L_feastOf) B.pre
  have hown : s.vm.findClass RL = some m.cls := findClass_of_methodNamed B.named
  have hlocks := B.notSynchronized
  have hl := lv_entry ([.ref (q 0), .int (iZ z1), .int (iZ z2), .ref o]) (n := 5) (Nat.le_of_ble_eq_true rfl)
  rw [lg_entry_eq]
  generalize (lg_sl ([.ref (q 0), .int (iZ z1), .int (iZ z2), .ref o]) ++ List.replicate (5 - (lg_sl ([.ref (q 0), .int (iZ z1), .int (iZ z2), .ref o])).length) Slot.unset).toArray = ls at hl ⊢
  have hl : lv_has ls 5 [(0, .ref (q 0)), (1, .int (iZ z1)), (2, .int (iZ z2)), (3, .ref o)] := hl
  have hTab := vx_table (x := yL_feastOf) B (hts _ List.mem_cons_self)
  refine lv_aload_n hx hb dL_feastOf_0 rfl (lv_at hl 3 rfl) ?_
  refine lv_aload_n hx hb dL_feastOf_1 rfl (lv_at hl 0 rfl) ?_
  refine lv_iload_n hx hb dL_feastOf_2 rfl (lv_at hl 1 rfl) ?_
  refine lv_iload_n hx hb dL_feastOf_3 rfl (lv_at hl 2 rfl) ?_
  refine kcxc (vx_runV (As := [.int (iZ z1), .int (iZ z2)]) (rest := [.ref o]) ⟨hx, hb, hml, hown, hts⟩ (c_X1_feastOf l hst dC dI dA k q σ _ hG hOK hq z1 z2 rz1 rz2) (cwV 2 hts (kg_V mw818 mw819 mw820 mw42 rfl mw821) rfl rfl rfl hdV_X1_feastOf ⟨Nat.le_of_ble_eq_true rfl, Nat.le_of_ble_eq_true rfl⟩) ⟨fun a U g mk q => ⟨q.1, q.2.1, kM_call q.2.2⟩, va_recv hM.1 hPx (ci := 4) (q0 := 0) rfl rfl, fun U hU hW => ⟨rfl, hU, kM_kept hM hS hAN hU hW⟩⟩ rfl rfl hl.1 rfl (lv_room (Nat.le_of_ble_eq_true rfl)) dL_feastOf_4 ⟨Nat.le_of_ble_eq_true rfl, Nat.le_of_ble_eq_true rfl⟩) hS (fun a _ h => Or.inl h) (fun a h => Or.inl h) (fun E ce q9 H1 locs hE hy9 hk9 hS hce hcv hcl => ?_) (fun H1 locs hG1 hE hy9 hk9 hS => ?_)
  · have hG9 : gX dC dI dA q σ H1 := gX_kept hG (fun i _ h => hk9 _ h)
    have hO8 := hO.kept (H1 := H1) (fun i p hp => hk9 _ (hO i p hp).lt)
    rcases hE with ⟨hE, rfl⟩ | ⟨hE, rfl⟩
    · refine vx_catch (own := RL) (name := "java/lang/IndexOutOfBoundsException") hown [] ⟨0, 11, 14, 19⟩ [] hTab (fun z h => absurd h List.not_mem_nil) (by decide) (by decide) (hts _ (List.mem_cons_of_mem _ mw604)) (va_Nw.use rfl hL.2.2.1) hce hcv hcl ?_
      refine lv_astore (lv' := [(4, .ref q9), (0, .ref (q 0)), (1, .int (iZ z1)), (2, .int (iZ z2)), (3, .ref o)]) hx hb dL_feastOf_14 hl (by decide) rfl (fun ls hl => ?_)
      refine lv_iconst (v := iZ 1) hx hb dL_feastOf_16 rfl ?_
      refine W.widen (k := 2) (n := 12) (Nat.le_of_ble_eq_true rfl) (Nat.le_of_ble_eq_true rfl) ?_
      exact W.iret (v := iZ 1) hx hb hr (fun t ht hW => ⟨⟨congrArg (fun z : Int => Outcome.returned (some (Value.int (iZ z)))) (show 1 = ex2 (!inb z1 0 3 || !inb z2 0 3) (false) from hE.symm), by rw [ht]; exact ⟨gX_cast hG9 (if_neg (by rw [hE]; decide)).symm, sn, sv, fun z => absurd z (by rw [hE]; decide), hO8⟩⟩, hS.F ht⟩) hS.2.2 dL_feastOf_17 hlocks
    · exact absurd hE ex2_no2
  obtain ⟨tb1, tn1, tm1, htn1, hfit1, htm1, hP1⟩ := hG1
  have hPO := hP1.app (hO.kept (H1 := H1) (fun i p hp => hk9 _ (hO i p hp).lt (by match i, hp with | 0, hp => cases hp; exact hno (hO 0 _ rfl).lt | n + 1, hp => cases hp)))
  generalize H1 = H at hPO hS ⊢
  clear hk9 hy9
  refine kz_w32 ?_
  refine kz_i2l hx hb (w32_rng _) dL_feastOf_7 ?_
  refine va_putN (D := (dC, dI)) (ci := 5) (v := .long (lZ ((w32 (bZ (decide (σ 6 (z2.toNat) ≠ 2 ∨ σ 7 (z2.toNat) ≤ 28))))))) (ty := .long) (C := RX2) (T := TX2) (N := 2) hx hb hts (fun w h => List.mem_cons_of_mem _ (gF_1_in h)) tyX2 tyX2_ok nmX2 hown hM.1 hPO (kXO_D hq ho9) hS 9 rfl rfl 0 (by decide) (va_Nw.use rfl hL.1) (fun _ h9 => h9) rfl (by decide +kernel) rfl rfl (Nat.le_of_ble_eq_true rfl) dL_feastOf_8 (fun H locs hPO hD hS => ?_)
  refine lv_goto (tgt := 18) hx hb dL_feastOf_11 (by decide) ?_
  refine lv_iconst (v := iZ 0) hx hb dL_feastOf_18 rfl ?_
  refine W.widen (k := 2) (n := 12) (Nat.le_of_ble_eq_true rfl) (Nat.le_of_ble_eq_true rfl) ?_
  exact W.iret (v := iZ 0) hx hb hr (fun t ht hW => ⟨⟨congrArg (fun z : Int => Outcome.returned (some (Value.int (iZ z)))) (show 0 = ex2 (!inb z1 0 3 || !inb z2 0 3) (false) from hE.symm), by rw [ht]; exact ⟨gX_cast ⟨tb1, tn1, tm1, htn1, hfit1, htm1, va_Pl (a := kX q dA (putFs σ (z1.toNat) (σ 6 (z2.toNat)) (σ 7 (z2.toNat))) tb1 (nI tn1) tm1) hPO⟩ (if_pos hE).symm, _, _, fun _ => rfl, va_Pr (a := kX q dA (putFs σ (z1.toNat) (σ 6 (z2.toNat)) (σ 7 (z2.toNat))) tb1 (nI tn1) tm1) hPO⟩⟩, hS.F ht⟩) hS.2.2 dL_feastOf_19 hlocks

abbrev ww_L_feastLike : List Cond := .codeWith yL_feastLike cL_feastLike 5 (some .int) [(0, 11, 14, 19)] :: gT
set_option maxHeartbeats 4000000 in
set_option maxRecDepth 100000 in
theorem c_L_feastLike (l : Launch) (hst : l.stackTraces = false) (dC : Nat → ClassId) (dI : Nat → Nat → Nat) (dA : Nat → ClassId) (k : Nat → Nat) (q : Nat → Nat) (σ : Nat → Nat → Int) (H0 : Heap) (hG : gX dC dI dA q σ H0) (hOK : kOK σ) (hq : kQI q k) (o : Nat) (sn : Int) (sv : Value) (hO : va_P (dC, dI) vwCl [(o, .inr (5, [.long (lZ sn), sv]))] H0) (hko : k 0 ≤ o) (ho9 : ∀ i : Nat, i < 9 → q i ≠ o) (z1 : Int) (z2 : Int) (rz1 : -2147483648 ≤ z1 ∧ z1 < 2147483648) (rz2 : -2147483648 ≤ z2 ∧ z2 < 2147483648) : Met l yL_feastLike ww_L_feastLike ({ frames := 10, cells := 2, slots := 12, locals := 343 }) (va_Pc [.ref (q 0), .int (iZ z1), .int (iZ z2), .ref o] (fun U => U.heap = H0 ∧ kMJ dC dI dA k U ∧ kL U)) (kQ2 (some (.int (iZ (ex2 (!inb z1 0 3 || !inb z2 0 3) (false))))) (fun H => gX dC dI dA q (if ex2 (!inb z1 0 3 || !inb z2 0 3) (false) = 0 then (sU (sU σ 3 (z1.toNat) (σ 3 (z2.toNat))) 4 (z1.toNat) (σ 4 (z2.toNat))) else σ) H ∧ gO dC dI o (fun n => ex2 (!inb z1 0 3 || !inb z2 0 3) (false) = 0 → n = w32 (bZ (decide (σ 3 (z1.toNat) = σ 3 (z2.toNat) ∧ σ 4 (z1.toNat) = σ 4 (z2.toNat))))) H) (kAO q o H0.size)) 2 12 (kAO q o H0.size) := by
  refine k_ofWH (cc := cL_feastLike) (maxL := 5) (ret := (some .int)) (hh := [(0, 11, 14, 19)]) (by decide) rfl ?_
  intro p e s m args below meth c s₁ B hml hv
  obtain ⟨rfl, hH, hMJ, hL⟩ := hv
  subst hH
  have hM := hMJ.1
  have hAN : ∀ a, kAO q o s.heap.size a → k 0 ≤ a := kAO_N hq hko hM.2.1.1
  have hS : va_S (kAO q o s.heap.size) s.heap s.heap [] := va_S.rf
  have hno : o < s.heap.size → ¬ kA q s.heap.size o := fun h z => z.elim (fun ⟨i, hi, e9⟩ => ho9 i hi e9.symm) (fun y => absurd h (Nat.not_lt.mpr y))
  obtain ⟨tb, tn, tm, htn, hfit, htm, hPx⟩ := id hG
  have hx := B.exec
  have hb := B.bytes
  have hr := B.returns
  have hts := atoms_spec (ws := ww_L_feastLike) B.pre
  have hown : s.vm.findClass RL = some m.cls := findClass_of_methodNamed B.named
  have hlocks := B.notSynchronized
  have hl := lv_entry ([.ref (q 0), .int (iZ z1), .int (iZ z2), .ref o]) (n := 5) (Nat.le_of_ble_eq_true rfl)
  rw [lg_entry_eq]
  generalize (lg_sl ([.ref (q 0), .int (iZ z1), .int (iZ z2), .ref o]) ++ List.replicate (5 - (lg_sl ([.ref (q 0), .int (iZ z1), .int (iZ z2), .ref o])).length) Slot.unset).toArray = ls at hl ⊢
  have hl : lv_has ls 5 [(0, .ref (q 0)), (1, .int (iZ z1)), (2, .int (iZ z2)), (3, .ref o)] := hl
  have hTab := vx_table (x := yL_feastLike) B (hts _ List.mem_cons_self)
  refine lv_aload_n hx hb dL_feastLike_0 rfl (lv_at hl 3 rfl) ?_
  refine lv_aload_n hx hb dL_feastLike_1 rfl (lv_at hl 0 rfl) ?_
  refine lv_iload_n hx hb dL_feastLike_2 rfl (lv_at hl 1 rfl) ?_
  refine lv_iload_n hx hb dL_feastLike_3 rfl (lv_at hl 2 rfl) ?_
  refine kcxc (vx_runV (As := [.int (iZ z1), .int (iZ z2)]) (rest := [.ref o]) ⟨hx, hb, hml, hown, hts⟩ (c_X1_feastLike l hst dC dI dA k q σ _ hG hOK hq z1 z2 rz1 rz2) (cwV 2 hts (kg_V mw825 mw826 mw827 mw42 rfl mw828) rfl rfl rfl hdV_X1_feastLike ⟨Nat.le_of_ble_eq_true rfl, Nat.le_of_ble_eq_true rfl⟩) ⟨fun a U g mk q => ⟨q.1, q.2.1, kM_call q.2.2⟩, va_recv hM.1 hPx (ci := 4) (q0 := 0) rfl rfl, fun U hU hW => ⟨rfl, hU, kM_kept hM hS hAN hU hW⟩⟩ rfl rfl hl.1 rfl (lv_room (Nat.le_of_ble_eq_true rfl)) dL_feastLike_4 ⟨Nat.le_of_ble_eq_true rfl, Nat.le_of_ble_eq_true rfl⟩) hS (fun a _ h => Or.inl h) (fun a h => Or.inl h) (fun E ce q9 H1 locs hE hy9 hk9 hS hce hcv hcl => ?_) (fun H1 locs hG1 hE hy9 hk9 hS => ?_)
  · have hG9 : gX dC dI dA q σ H1 := gX_kept hG (fun i _ h => hk9 _ h)
    have hO8 := hO.kept (H1 := H1) (fun i p hp => hk9 _ (hO i p hp).lt)
    rcases hE with ⟨hE, rfl⟩ | ⟨hE, rfl⟩
    · refine vx_catch (own := RL) (name := "java/lang/IndexOutOfBoundsException") hown [] ⟨0, 11, 14, 19⟩ [] hTab (fun z h => absurd h List.not_mem_nil) (by decide) (by decide) (hts _ (List.mem_cons_of_mem _ mw604)) (va_Nw.use rfl hL.2.2.1) hce hcv hcl ?_
      refine lv_astore (lv' := [(4, .ref q9), (0, .ref (q 0)), (1, .int (iZ z1)), (2, .int (iZ z2)), (3, .ref o)]) hx hb dL_feastLike_14 hl (by decide) rfl (fun ls hl => ?_)
      refine lv_iconst (v := iZ 1) hx hb dL_feastLike_16 rfl ?_
      refine W.widen (k := 2) (n := 12) (Nat.le_of_ble_eq_true rfl) (Nat.le_of_ble_eq_true rfl) ?_
      exact W.iret (v := iZ 1) hx hb hr (fun t ht hW => ⟨⟨congrArg (fun z : Int => Outcome.returned (some (Value.int (iZ z)))) (show 1 = ex2 (!inb z1 0 3 || !inb z2 0 3) (false) from hE.symm), by rw [ht]; exact ⟨gX_cast hG9 (if_neg (by rw [hE]; decide)).symm, sn, sv, fun z => absurd z (by rw [hE]; decide), hO8⟩⟩, hS.F ht⟩) hS.2.2 dL_feastLike_17 hlocks
    · exact absurd hE ex2_no2
  obtain ⟨tb1, tn1, tm1, htn1, hfit1, htm1, hP1⟩ := hG1
  have hPO := hP1.app (hO.kept (H1 := H1) (fun i p hp => hk9 _ (hO i p hp).lt (by match i, hp with | 0, hp => cases hp; exact hno (hO 0 _ rfl).lt | n + 1, hp => cases hp)))
  generalize H1 = H at hPO hS ⊢
  clear hk9 hy9
  refine kz_w32 ?_
  refine kz_i2l hx hb (w32_rng _) dL_feastLike_7 ?_
  refine va_putN (D := (dC, dI)) (ci := 5) (v := .long (lZ ((w32 (bZ (decide (σ 3 (z1.toNat) = σ 3 (z2.toNat) ∧ σ 4 (z1.toNat) = σ 4 (z2.toNat)))))))) (ty := .long) (C := RX2) (T := TX2) (N := 2) hx hb hts (fun w h => List.mem_cons_of_mem _ (gF_1_in h)) tyX2 tyX2_ok nmX2 hown hM.1 hPO (kXO_D hq ho9) hS 9 rfl rfl 0 (by decide) (va_Nw.use rfl hL.1) (fun _ h9 => h9) rfl (by decide +kernel) rfl rfl (Nat.le_of_ble_eq_true rfl) dL_feastLike_8 (fun H locs hPO hD hS => ?_)
  refine lv_goto (tgt := 18) hx hb dL_feastLike_11 (by decide) ?_
  refine lv_iconst (v := iZ 0) hx hb dL_feastLike_18 rfl ?_
  refine W.widen (k := 2) (n := 12) (Nat.le_of_ble_eq_true rfl) (Nat.le_of_ble_eq_true rfl) ?_
  exact W.iret (v := iZ 0) hx hb hr (fun t ht hW => ⟨⟨congrArg (fun z : Int => Outcome.returned (some (Value.int (iZ z)))) (show 0 = ex2 (!inb z1 0 3 || !inb z2 0 3) (false) from hE.symm), by rw [ht]; exact ⟨gX_cast ⟨tb1, tn1, tm1, htn1, hfit1, htm1, va_Pl (a := kX q dA (sU (sU σ 3 (z1.toNat) (σ 3 (z2.toNat))) 4 (z1.toNat) (σ 4 (z2.toNat))) tb1 (nI tn1) tm1) hPO⟩ (if_pos hE).symm, _, _, fun _ => rfl, va_Pr (a := kX q dA (sU (sU σ 3 (z1.toNat) (σ 3 (z2.toNat))) 4 (z1.toNat) (σ 4 (z2.toNat))) tb1 (nI tn1) tm1) hPO⟩⟩, hS.F ht⟩) hS.2.2 dL_feastLike_19 hlocks

