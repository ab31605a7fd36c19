abbrev ww_L_dayAt : List Cond := .codeWith yL_dayAt cL_dayAt 6 (some .int) [(0, 13, 16, 19), (0, 13, 20, 21)] :: gT
set_option maxHeartbeats 4000000 in
set_option maxRecDepth 100000 in
theorem c_L_dayAt (l : Launch) (hst : l.stackTraces = false) (dC : Nat → ClassId) (dI : Nat → Nat → Nat) (dA : Nat → ClassId) (k : Nat → Nat) (q : Nat → Nat) (σ : Nat → Nat → Int) (H0 : Heap) (hG : gX dC dI dA q σ H0) (hOK : kOK σ) (hq : kQI q k) (o : Nat) (sn : Int) (sv : Value) (hO : va_P (dC, dI) vwCl [(o, .inr (5, [.long (lZ sn), sv]))] H0) (hko : k 0 ≤ o) (ho9 : ∀ i : Nat, i < 9 → q i ≠ o) (z1 : Int) (z2 : Int) (nn : Int) (rz1 : -2147483648 ≤ z1 ∧ z1 < 2147483648) (rz2 : -2147483648 ≤ z2 ∧ z2 < 2147483648) (rnn : -2147483648 ≤ nn ∧ nn < 2147483648) : Met l yL_dayAt ww_L_dayAt ({ frames := 11, cells := 3, slots := 18, locals := 365 }) (va_Pc [.ref (q 0), .int (iZ z1), .int (iZ z2), .int (iZ nn), .ref o] (fun U => U.heap = H0 ∧ kMJ dC dI dA k U ∧ kL U)) (kQ2 (some (.int (iZ (ex2 (!inb z1 0 3 || !inb z2 0 3) (!inb nn 1 31))))) (fun H => gX dC dI dA q (if ex2 (!inb z1 0 3 || !inb z2 0 3) (!inb nn 1 31) = 0 then (if nn ≤ mlen (leap (σ 0 (z2.toNat))) (σ 1 (z2.toNat)) then setD σ (z1.toNat) (σ 0 (z2.toNat)) (σ 1 (z2.toNat)) nn else σ) else σ) H ∧ gO dC dI o (fun n => ex2 (!inb z1 0 3 || !inb z2 0 3) (!inb nn 1 31) = 0 → n = w32 (if nn ≤ mlen (leap (σ 0 (z2.toNat))) (σ 1 (z2.toNat)) then 1 + (dnum (σ 0 (z2.toNat)) (σ 1 (z2.toNat)) nn + 3) % 7 else -9)) H) (kAO q o H0.size)) 3 18 (kAO q o H0.size) := by
  refine k_ofWH (cc := cL_dayAt) (maxL := 6) (ret := (some .int)) (hh := [(0, 13, 16, 19), (0, 13, 20, 21)]) (by decide) rfl ?_
  intro p e s m args below meth c s₁ B hml hv
  obtain ⟨rfl, hH, hMJ, hL⟩ := hv
  subst hH
  have hM := hMJ.1
  have hAN : ∀ a, kAO q o s.heap.size a → k 0 ≤ a := kAO_N hq hko hM.2.1.1
  have hS : va_S (kAO q o s.heap.size) s.heap s.heap [] := va_S.rf
  have hno : o < s.heap.size → ¬ kA q s.heap.size o := fun h z => z.elim (fun ⟨i, hi, e9⟩ => ho9 i hi e9.symm) (fun y => absurd h (Nat.not_lt.mpr y))
  obtain ⟨tb, tn, tm, htn, hfit, htm, hPx⟩ := id hG
  have hx := B.exec
  have hb := B.bytes
  have hr := B.returns
  have hts := atoms_spec (ws := ww_L_dayAt) B.pre
  have hown : s.vm.findClass RL = some m.cls := findClass_of_methodNamed B.named
  have hlocks := B.notSynchronized
  have hl := lv_entry ([.ref (q 0), .int (iZ z1), .int (iZ z2), .int (iZ nn), .ref o]) (n := 6) (Nat.le_of_ble_eq_true rfl)
  rw [lg_entry_eq]
  generalize (lg_sl ([.ref (q 0), .int (iZ z1), .int (iZ z2), .int (iZ nn), .ref o]) ++ List.replicate (6 - (lg_sl ([.ref (q 0), .int (iZ z1), .int (iZ z2), .int (iZ nn), .ref o])).length) Slot.unset).toArray = ls at hl ⊢
  have hl : lv_has ls 6 [(0, .ref (q 0)), (1, .int (iZ z1)), (2, .int (iZ z2)), (3, .int (iZ nn)), (4, .ref o)] := hl
  have hTab := vx_table (x := yL_dayAt) B (hts _ List.mem_cons_self)
  refine lv_aload hx hb dL_dayAt_0 (lv_at hl 4 rfl) ?_
  refine lv_aload_n hx hb dL_dayAt_2 rfl (lv_at hl 0 rfl) ?_
  refine lv_iload_n hx hb dL_dayAt_3 rfl (lv_at hl 1 rfl) ?_
  refine lv_iload_n hx hb dL_dayAt_4 rfl (lv_at hl 2 rfl) ?_
  refine lv_iload_n hx hb dL_dayAt_5 rfl (lv_at hl 3 rfl) ?_
  refine kcxc (vx_runV (As := [.int (iZ z1), .int (iZ z2), .int (iZ nn)]) (rest := [.ref o]) ⟨hx, hb, hml, hown, hts⟩ (c_X1_dayAt l hst dC dI dA k q σ _ hG hOK hq z1 z2 nn rz1 rz2 rnn) (cwV 3 hts (kg_V mw832 mw833 mw834 mw42 rfl mw835) rfl rfl rfl hdV_X1_dayAt ⟨Nat.le_of_ble_eq_true rfl, Nat.le_of_ble_eq_true rfl⟩) ⟨fun a U g mk q => ⟨q.1, q.2.1, kM_call q.2.2⟩, va_recv hM.1 hPx (ci := 4) (q0 := 0) rfl rfl, fun U hU hW => ⟨rfl, hU, kM_kept hM hS hAN hU hW⟩⟩ rfl rfl hl.1 rfl (lv_room (Nat.le_of_ble_eq_true rfl)) dL_dayAt_6 ⟨Nat.le_of_ble_eq_true rfl, Nat.le_of_ble_eq_true rfl⟩) hS (fun a _ h => Or.inl h) (fun a h => Or.inl h) (fun E ce q9 H1 locs hE hy9 hk9 hS hce hcv hcl => ?_) (fun H1 locs hG1 hE hy9 hk9 hS => ?_)
  · have hG9 : gX dC dI dA q σ H1 := gX_kept hG (fun i _ h => hk9 _ h)
    have hO8 := hO.kept (H1 := H1) (fun i p hp => hk9 _ (hO i p hp).lt)
    rcases hE with ⟨hE, rfl⟩ | ⟨hE, rfl⟩
    · refine vx_catch (own := RL) (name := "java/lang/IndexOutOfBoundsException") hown [] ⟨0, 13, 16, 19⟩ [⟨0, 13, 20, 21⟩] hTab (fun z h => absurd h List.not_mem_nil) (by decide) (by decide) (hts _ (List.mem_cons_of_mem _ mw604)) (va_Nw.use rfl hL.2.2.1) hce hcv hcl ?_
      refine lv_astore (lv' := [(5, .ref q9), (0, .ref (q 0)), (1, .int (iZ z1)), (2, .int (iZ z2)), (3, .int (iZ nn)), (4, .ref o)]) hx hb dL_dayAt_16 hl (by decide) rfl (fun ls hl => ?_)
      refine lv_iconst (v := iZ 1) hx hb dL_dayAt_18 rfl ?_
      refine W.widen (k := 3) (n := 18) (Nat.le_of_ble_eq_true rfl) (Nat.le_of_ble_eq_true rfl) ?_
      exact W.iret (v := iZ 1) hx hb hr (fun t ht hW => ⟨⟨congrArg (fun z : Int => Outcome.returned (some (Value.int (iZ z)))) (show 1 = ex2 (!inb z1 0 3 || !inb z2 0 3) (!inb nn 1 31) from hE.symm), by rw [ht]; exact ⟨gX_cast hG9 (if_neg (by rw [hE]; decide)).symm, sn, sv, fun z => absurd z (by rw [hE]; decide), hO8⟩⟩, hS.F ht⟩) hS.2.2 dL_dayAt_19 hlocks
    · refine vx_catch (own := RL) (name := "java/lang/IllegalArgumentException") hown [⟨0, 13, 16, 19⟩] ⟨0, 13, 20, 21⟩ [] hTab (fun z h => by cases List.mem_singleton.mp h; exact Or.inr ⟨by decide, "java/lang/IndexOutOfBoundsException", (hts _ (List.mem_cons_of_mem _ mw604)), hM.2.1.2.2.2.2.2.2.2.2.2.2.2⟩) (by decide) (by decide) (hts _ (List.mem_cons_of_mem _ mw605)) (va_Nw.use rfl hL.2.2.2) hce hcv hcl ?_
      refine lv_astore (lv' := [(5, .ref q9), (0, .ref (q 0)), (1, .int (iZ z1)), (2, .int (iZ z2)), (3, .int (iZ nn)), (4, .ref o)]) hx hb dL_dayAt_20 hl (by decide) rfl (fun ls hl => ?_)
      refine lv_iconst (v := iZ 2) hx hb dL_dayAt_22 rfl ?_
      refine W.widen (k := 3) (n := 18) (Nat.le_of_ble_eq_true rfl) (Nat.le_of_ble_eq_true rfl) ?_
      exact W.iret (v := iZ 2) hx hb hr (fun t ht hW => ⟨⟨congrArg (fun z : Int => Outcome.returned (some (Value.int (iZ z)))) (show 2 = ex2 (!inb z1 0 3 || !inb z2 0 3) (!inb nn 1 31) from hE.symm), by rw [ht]; exact ⟨gX_cast hG9 (if_neg (by rw [hE]; decide)).symm, sn, sv, fun z => absurd z (by rw [hE]; decide), hO8⟩⟩, hS.F ht⟩) hS.2.2 dL_dayAt_23 hlocks
  obtain ⟨tb1, tn1, tm1, htn1, hfit1, htm1, hP1⟩ := hG1
  have hPO := hP1.app (hO.kept (H1 := H1) (fun i p hp => hk9 _ (hO i p hp).lt (by match i, hp with | 0, hp => cases hp; exact hno (hO 0 _ rfl).lt | n + 1, hp => cases hp)))
  generalize H1 = H at hPO hS ⊢
  clear hk9 hy9
  refine kz_w32 ?_
  refine kz_i2l hx hb (w32_rng _) dL_dayAt_9 ?_
  refine va_putN (D := (dC, dI)) (ci := 5) (v := .long (lZ ((w32 (if nn ≤ mlen (leap (σ 0 (z2.toNat))) (σ 1 (z2.toNat)) then 1 + (dnum (σ 0 (z2.toNat)) (σ 1 (z2.toNat)) nn + 3) % 7 else -9))))) (ty := .long) (C := RX2) (T := TX2) (N := 2) hx hb hts (fun w h => List.mem_cons_of_mem _ (gF_1_in h)) tyX2 tyX2_ok nmX2 hown hM.1 hPO (kXO_D hq ho9) hS 9 rfl rfl 0 (by decide) (va_Nw.use rfl hL.1) (fun _ h9 => h9) rfl (by decide +kernel) rfl rfl (Nat.le_of_ble_eq_true rfl) dL_dayAt_10 (fun H locs hPO hD hS => ?_)
  refine lv_goto (tgt := 24) hx hb dL_dayAt_13 (by decide) ?_
  refine lv_iconst (v := iZ 0) hx hb dL_dayAt_24 rfl ?_
  refine W.widen (k := 3) (n := 18) (Nat.le_of_ble_eq_true rfl) (Nat.le_of_ble_eq_true rfl) ?_
  exact W.iret (v := iZ 0) hx hb hr (fun t ht hW => ⟨⟨congrArg (fun z : Int => Outcome.returned (some (Value.int (iZ z)))) (show 0 = ex2 (!inb z1 0 3 || !inb z2 0 3) (!inb nn 1 31) from hE.symm), by rw [ht]; exact ⟨gX_cast ⟨tb1, tn1, tm1, htn1, hfit1, htm1, va_Pl (a := kX q dA (if nn ≤ mlen (leap (σ 0 (z2.toNat))) (σ 1 (z2.toNat)) then setD σ (z1.toNat) (σ 0 (z2.toNat)) (σ 1 (z2.toNat)) nn else σ) tb1 (nI tn1) tm1) hPO⟩ (if_pos hE).symm, _, _, fun _ => rfl, va_Pr (a := kX q dA (if nn ≤ mlen (leap (σ 0 (z2.toNat))) (σ 1 (z2.toNat)) then setD σ (z1.toNat) (σ 0 (z2.toNat)) (σ 1 (z2.toNat)) nn else σ) tb1 (nI tn1) tm1) hPO⟩⟩, hS.F ht⟩) hS.2.2 dL_dayAt_25 hlocks

abbrev ww_L_dayEnd : List Cond := .codeWith yL_dayEnd cL_dayEnd 5 (some .int) [(0, 11, 14, 19)] :: gT
set_option maxHeartbeats 4000000 in
set_option maxRecDepth 100000 in
theorem c_L_dayEnd (l : Launch) (hst : l.stackTraces = false) (dC : Nat → ClassId) (dI : Nat → Nat → Nat) (dA : Nat → ClassId) (k : Nat → Nat) (q : Nat → Nat) (σ : Nat → Nat → Int) (H0 : Heap) (hG : gX dC dI dA q σ H0) (hOK : kOK σ) (hq : kQI q k) (o : Nat) (sn : Int) (sv : Value) (hO : va_P (dC, dI) vwCl [(o, .inr (5, [.long (lZ sn), sv]))] H0) (hko : k 0 ≤ o) (ho9 : ∀ i : Nat, i < 9 → q i ≠ o) (z1 : Int) (z2 : Int) (rz1 : -2147483648 ≤ z1 ∧ z1 < 2147483648) (rz2 : -2147483648 ≤ z2 ∧ z2 < 2147483648) : Met l yL_dayEnd ww_L_dayEnd ({ frames := 10, cells := 2, slots := 12, locals := 342 }) (va_Pc [.ref (q 0), .int (iZ z1), .int (iZ z2), .ref o] (fun U => U.heap = H0 ∧ kMJ dC dI dA k U ∧ kL U)) (kQ2 (some (.int (iZ (ex2 (!inb z1 0 3 || !inb z2 0 3) (false))))) (fun H => gX dC dI dA q (if ex2 (!inb z1 0 3 || !inb z2 0 3) (false) = 0 then (setD σ (z1.toNat) (σ 0 (z2.toNat)) (σ 1 (z2.toNat)) (mlen (leap (σ 0 (z2.toNat))) (σ 1 (z2.toNat)))) else σ) H ∧ gO dC dI o (fun n => ex2 (!inb z1 0 3 || !inb z2 0 3) (false) = 0 → n = w32 (mlen (leap (σ 0 (z2.toNat))) (σ 1 (z2.toNat)))) H) (kAO q o H0.size)) 2 12 (kAO q o H0.size) := by
  refine k_ofWH (cc := cL_dayEnd) (maxL := 5) (ret := (some .int)) (hh := [(0, 11, 14, 19)]) (by decide) rfl ?_
  intro p e s m args below meth c s₁ B hml hv
  obtain ⟨rfl, hH, hMJ, hL⟩ := hv
  subst hH
  have hM := hMJ.1
  have hAN : ∀ a, kAO q o s.heap.size a → k 0 ≤ a := kAO_N hq hko hM.2.1.1
  have hS : va_S (kAO q o s.heap.size) s.heap s.heap [] := va_S.rf
  have hno : o < s.heap.size → ¬ kA q s.heap.size o := fun h z => z.elim (fun ⟨i, hi, e9⟩ => ho9 i hi e9.symm) (fun y => absurd h (Nat.not_lt.mpr y))
  obtain ⟨tb, tn, tm, htn, hfit, htm, hPx⟩ := id hG
  have hx := B.exec
  have hb := B.bytes
  have hr := B.returns
  have hts := atoms_spec (ws := ww_L_dayEnd) B.pre
  have hown : s.vm.findClass RL = some m.cls := findClass_of_methodNamed B.named
  have hlocks := B.notSynchronized
  have hl := lv_entry ([.ref (q 0), .int (iZ z1), .int (iZ z2), .ref o]) (n := 5) (Nat.le_of_ble_eq_true rfl)
  rw [lg_entry_eq]
  generalize (lg_sl ([.ref (q 0), .int (iZ z1), .int (iZ z2), .ref o]) ++ List.replicate (5 - (lg_sl ([.ref (q 0), .int (iZ z1), .int (iZ z2), .ref o])).length) Slot.unset).toArray = ls at hl ⊢
  have hl : lv_has ls 5 [(0, .ref (q 0)), (1, .int (iZ z1)), (2, .int (iZ z2)), (3, .ref o)] := hl
  have hTab := vx_table (x := yL_dayEnd) B (hts _ List.mem_cons_self)
  refine lv_aload_n hx hb dL_dayEnd_0 rfl (lv_at hl 3 rfl) ?_
  refine lv_aload_n hx hb dL_dayEnd_1 rfl (lv_at hl 0 rfl) ?_
  refine lv_iload_n hx hb dL_dayEnd_2 rfl (lv_at hl 1 rfl) ?_
  refine lv_iload_n hx hb dL_dayEnd_3 rfl (lv_at hl 2 rfl) ?_
  refine kcxc (vx_runV (As := [.int (iZ z1), .int (iZ z2)]) (rest := [.ref o]) ⟨hx, hb, hml, hown, hts⟩ (c_X1_dayEnd l hst dC dI dA k q σ _ hG hOK hq z1 z2 rz1 rz2) (cwV 2 hts (kg_V mw842 mw843 mw844 mw42 rfl mw845) rfl rfl rfl hdV_X1_dayEnd ⟨Nat.le_of_ble_eq_true rfl, Nat.le_of_ble_eq_true rfl⟩) ⟨fun a U g mk q => ⟨q.1, q.2.1, kM_call q.2.2⟩, va_recv hM.1 hPx (ci := 4) (q0 := 0) rfl rfl, fun U hU hW => ⟨rfl, hU, kM_kept hM hS hAN hU hW⟩⟩ rfl rfl hl.1 rfl (lv_room (Nat.le_of_ble_eq_true rfl)) dL_dayEnd_4 ⟨Nat.le_of_ble_eq_true rfl, Nat.le_of_ble_eq_true rfl⟩) hS (fun a _ h => Or.inl h) (fun a h => Or.inl h) (fun E ce q9 H1 locs hE hy9 hk9 hS hce hcv hcl => ?_) (fun H1 locs hG1 hE hy9 hk9 hS => ?_)
  · have hG9 : gX dC dI dA q σ H1 := gX_kept hG (fun i _ h => hk9 _ h)
    have hO8 := hO.kept (H1 := H1) (fun i p hp => hk9 _ (hO i p hp).lt)
    rcases hE with ⟨hE, rfl⟩ | ⟨hE, rfl⟩
    · refine vx_catch (own := RL) (name := "java/lang/IndexOutOfBoundsException") hown [] ⟨0, 11, 14, 19⟩ [] hTab (fun z h => absurd h List.not_mem_nil) (by decide) (by decide) (hts _ (List.mem_cons_of_mem _ mw604)) (va_Nw.use rfl hL.2.2.1) hce hcv hcl ?_
      refine lv_astore (lv' := [(4, .ref q9), (0, .ref (q 0)), (1, .int (iZ z1)), (2, .int (iZ z2)), (3, .ref o)]) hx hb dL_dayEnd_14 hl (by decide) rfl (fun ls hl => ?_)
      refine lv_iconst (v := iZ 1) hx hb dL_dayEnd_16 rfl ?_
      refine W.widen (k := 2) (n := 12) (Nat.le_of_ble_eq_true rfl) (Nat.le_of_ble_eq_true rfl) ?_
      exact W.iret (v := iZ 1) hx hb hr (fun t ht hW => ⟨⟨congrArg (fun z : Int => Outcome.returned (some (Value.int (iZ z)))) (show 1 = ex2 (!inb z1 0 3 || !inb z2 0 3) (false) from hE.symm), by rw [ht]; exact ⟨gX_cast hG9 (if_neg (by rw [hE]; decide)).symm, sn, sv, fun z => absurd z (by rw [hE]; decide), hO8⟩⟩, hS.F ht⟩) hS.2.2 dL_dayEnd_17 hlocks
    · exact absurd hE ex2_no2
  obtain ⟨tb1, tn1, tm1, htn1, hfit1, htm1, hP1⟩ := hG1
  have hPO := hP1.app (hO.kept (H1 := H1) (fun i p hp => hk9 _ (hO i p hp).lt (by match i, hp with | 0, hp => cases hp; exact hno (hO 0 _ rfl).lt | n + 1, hp => cases hp)))
  generalize H1 = H at hPO hS ⊢
  clear hk9 hy9
  refine kz_w32 ?_
  refine kz_i2l hx hb (w32_rng _) dL_dayEnd_7 ?_
  refine va_putN (D := (dC, dI)) (ci := 5) (v := .long (lZ ((w32 (mlen (leap (σ 0 (z2.toNat))) (σ 1 (z2.toNat))))))) (ty := .long) (C := RX2) (T := TX2) (N := 2) hx hb hts (fun w h => List.mem_cons_of_mem _ (gF_1_in h)) tyX2 tyX2_ok nmX2 hown hM.1 hPO (kXO_D hq ho9) hS 9 rfl rfl 0 (by decide) (va_Nw.use rfl hL.1) (fun _ h9 => h9) rfl (by decide +kernel) rfl rfl (Nat.le_of_ble_eq_true rfl) dL_dayEnd_8 (fun H locs hPO hD hS => ?_)
  refine lv_goto (tgt := 18) hx hb dL_dayEnd_11 (by decide) ?_
  refine lv_iconst (v := iZ 0) hx hb dL_dayEnd_18 rfl ?_
  refine W.widen (k := 2) (n := 12) (Nat.le_of_ble_eq_true rfl) (Nat.le_of_ble_eq_true rfl) ?_
  exact W.iret (v := iZ 0) hx hb hr (fun t ht hW => ⟨⟨congrArg (fun z : Int => Outcome.returned (some (Value.int (iZ z)))) (show 0 = ex2 (!inb z1 0 3 || !inb z2 0 3) (false) from hE.symm), by rw [ht]; exact ⟨gX_cast ⟨tb1, tn1, tm1, htn1, hfit1, htm1, va_Pl (a := kX q dA (setD σ (z1.toNat) (σ 0 (z2.toNat)) (σ 1 (z2.toNat)) (mlen (leap (σ 0 (z2.toNat))) (σ 1 (z2.toNat)))) tb1 (nI tn1) tm1) hPO⟩ (if_pos hE).symm, _, _, fun _ => rfl, va_Pr (a := kX q dA (setD σ (z1.toNat) (σ 0 (z2.toNat)) (σ 1 (z2.toNat)) (mlen (leap (σ 0 (z2.toNat))) (σ 1 (z2.toNat)))) tb1 (nI tn1) tm1) hPO⟩⟩, hS.F ht⟩) hS.2.2 dL_dayEnd_19 hlocks

abbrev ww_L_dayInYear : List Cond := .codeWith yL_dayInYear cL_dayInYear 6 (some .int) [(0, 13, 16, 19), (0, 13, 20, 21)] :: gT
set_option maxHeartbeats 4000000 in
set_option maxRecDepth 100000 in
theorem c_L_dayInYear (l : Launch) (hst : l.stackTraces = false) (dC : Nat → ClassId) (dI : Nat → Nat → Nat) (dA : Nat → ClassId) (k : Nat → Nat) (q : Nat → Nat) (σ : Nat → Nat → Int) (H0 : Heap) (hG : gX dC dI dA q σ H0) (hOK : kOK σ) (hq : kQI q k) (o : Nat) (sn : Int) (sv : Value) (hO : va_P (dC, dI) vwCl [(o, .inr (5, [.long (lZ sn), sv]))] H0) (hko : k 0 ≤ o) (ho9 : ∀ i : Nat, i < 9 → q i ≠ o) (z1 : Int) (z2 : Int) (pl : Int) (rz1 : -2147483648 ≤ z1 ∧ z1 < 2147483648) (rz2 : -2147483648 ≤ z2 ∧ z2 < 2147483648) (rpl : -2147483648 ≤ pl ∧ pl < 2147483648) : Met l yL_dayInYear ww_L_dayInYear ({ frames := 10, cells := 3, slots := 18, locals := 348 }) (va_Pc [.ref (q 0), .int (iZ z1), .int (iZ z2), .int (iZ pl), .ref o] (fun U => U.heap = H0 ∧ kMJ dC dI dA k U ∧ kL U)) (kQ2 (some (.int (iZ (ex2 (!inb z1 0 3 || !inb z2 0 3) (!inb pl 1 366))))) (fun H => gX dC dI dA q (if ex2 (!inb z1 0 3 || !inb z2 0 3) (!inb pl 1 366) = 0 then (if pl ≤ ylen (σ 2 (z2.toNat)) then setD σ (z1.toNat) (σ 2 (z2.toNat)) (mop (leap (σ 2 (z2.toNat))) pl) (pl - ahead (leap (σ 2 (z2.toNat))) (mop (leap (σ 2 (z2.toNat))) pl)) else σ) else σ) H ∧ gO dC dI o (fun n => ex2 (!inb z1 0 3 || !inb z2 0 3) (!inb pl 1 366) = 0 → n = w32 (if pl ≤ ylen (σ 2 (z2.toNat)) then mop (leap (σ 2 (z2.toNat))) pl else -9)) H) (kAO q o H0.size)) 3 18 (kAO q o H0.size) := by
  refine k_ofWH (cc := cL_dayInYear) (maxL := 6) (ret := (some .int)) (hh := [(0, 13, 16, 19), (0, 13, 20, 21)]) (by decide) rfl ?_
  intro p e s m args below meth c s₁ B hml hv
  obtain ⟨rfl, hH, hMJ, hL⟩ := hv
  subst hH
  have hM := hMJ.1
  have hAN : ∀ a, kAO q o s.heap.size a → k 0 ≤ a := kAO_N hq hko hM.2.1.1
  have hS : va_S (kAO q o s.heap.size) s.heap s.heap [] := va_S.rf
  have hno : o < s.heap.size → ¬ kA q s.heap.size o := fun h z => z.elim (fun ⟨i, hi, e9⟩ => ho9 i hi e9.symm) (fun y => absurd h (Nat.not_lt.mpr y))
  obtain ⟨tb, tn, tm, htn, hfit, htm, hPx⟩ := id hG
  have hx := B.exec
  have hb := B.bytes
  have hr := B.returns
  have hts := atoms_spec (ws := ww_L_dayInYear) B.pre
  have hown : s.vm.findClass RL = some m.cls := findClass_of_methodNamed B.named
  have hlocks := B.notSynchronized
  have hl := lv_entry ([.ref (q 0), .int (iZ z1), .int (iZ z2), .int (iZ pl), .ref o]) (n := 6) (Nat.le_of_ble_eq_true rfl)
  rw [lg_entry_eq]
  generalize (lg_sl ([.ref (q 0), .int (iZ z1), .int (iZ z2), .int (iZ pl), .ref o]) ++ List.replicate (6 - (lg_sl ([.ref (q 0), .int (iZ z1), .int (iZ z2), .int (iZ pl), .ref o])).length) Slot.unset).toArray = ls at hl ⊢
  have hl : lv_has ls 6 [(0, .ref (q 0)), (1, .int (iZ z1)), (2, .int (iZ z2)), (3, .int (iZ pl)), (4, .ref o)] := hl
  have hTab := vx_table (x := yL_dayInYear) B (hts _ List.mem_cons_self)
  refine lv_aload hx hb dL_dayInYear_0 (lv_at hl 4 rfl) ?_
  refine lv_aload_n hx hb dL_dayInYear_2 rfl (lv_at hl 0 rfl) ?_
  refine lv_iload_n hx hb dL_dayInYear_3 rfl (lv_at hl 1 rfl) ?_
  refine lv_iload_n hx hb dL_dayInYear_4 rfl (lv_at hl 2 rfl) ?_
  refine lv_iload_n hx hb dL_dayInYear_5 rfl (lv_at hl 3 rfl) ?_
  refine kcxc (vx_runV (As := [.int (iZ z1), .int (iZ z2), .int (iZ pl)]) (rest := [.ref o]) ⟨hx, hb, hml, hown, hts⟩ (c_X1_dayInYear l hst dC dI dA k q σ _ hG hOK hq z1 z2 pl rz1 rz2 rpl) (cwV 3 hts (kg_V mw849 mw850 mw851 mw42 rfl mw852) rfl rfl rfl hdV_X1_dayInYear ⟨Nat.le_of_ble_eq_true rfl, Nat.le_of_ble_eq_true rfl⟩) ⟨fun a U g mk q => ⟨q.1, q.2.1, kM_call q.2.2⟩, va_recv hM.1 hPx (ci := 4) (q0 := 0) rfl rfl, fun U hU hW => ⟨rfl, hU, kM_kept hM hS hAN hU hW⟩⟩ rfl rfl hl.1 rfl (lv_room (Nat.le_of_ble_eq_true rfl)) dL_dayInYear_6 ⟨Nat.le_of_ble_eq_true rfl, Nat.le_of_ble_eq_true rfl⟩) hS (fun a _ h => Or.inl h) (fun a h => Or.inl h) (fun E ce q9 H1 locs hE hy9 hk9 hS hce hcv hcl => ?_) (fun H1 locs hG1 hE hy9 hk9 hS => ?_)
  · have hG9 : gX dC dI dA q σ H1 := gX_kept hG (fun i _ h => hk9 _ h)
    have hO8 := hO.kept (H1 := H1) (fun i p hp => hk9 _ (hO i p hp).lt)
    rcases hE with ⟨hE, rfl⟩ | ⟨hE, rfl⟩
    · refine vx_catch (own := RL) (name := "java/lang/IndexOutOfBoundsException") hown [] ⟨0, 13, 16, 19⟩ [⟨0, 13, 20, 21⟩] hTab (fun z h => absurd h List.not_mem_nil) (by decide) (by decide) (hts _ (List.mem_cons_of_mem _ mw604)) (va_Nw.use rfl hL.2.2.1) hce hcv hcl ?_
      refine lv_astore (lv' := [(5, .ref q9), (0, .ref (q 0)), (1, .int (iZ z1)), (2, .int (iZ z2)), (3, .int (iZ pl)), (4, .ref o)]) hx hb dL_dayInYear_16 hl (by decide) rfl (fun ls hl => ?_)
      refine lv_iconst (v := iZ 1) hx hb dL_dayInYear_18 rfl ?_
      refine W.widen (k := 3) (n := 18) (Nat.le_of_ble_eq_true rfl) (Nat.le_of_ble_eq_true rfl) ?_
      exact W.iret (v := iZ 1) hx hb hr (fun t ht hW => ⟨⟨congrArg (fun z : Int => Outcome.returned (some (Value.int (iZ z)))) (show 1 = ex2 (!inb z1 0 3 || !inb z2 0 3) (!inb pl 1 366) from hE.symm), by rw [ht]; exact ⟨gX_cast hG9 (if_neg (by rw [hE]; decide)).symm, sn, sv, fun z => absurd z (by rw [hE]; decide), hO8⟩⟩, hS.F ht⟩) hS.2.2 dL_dayInYear_19 hlocks
    · refine vx_catch (own := RL) (name := "java/lang/IllegalArgumentException") hown [⟨0, 13, 16, 19⟩] ⟨0, 13, 20, 21⟩ [] hTab (fun z h => by cases List.mem_singleton.mp h; exact Or.inr ⟨by decide, "java/lang/IndexOutOfBoundsException", (hts _ (List.mem_cons_of_mem _ mw604)), hM.2.1.2.2.2.2.2.2.2.2.2.2.2⟩) (by decide) (by decide) (hts _ (List.mem_cons_of_mem _ mw605)) (va_Nw.use rfl hL.2.2.2) hce hcv hcl ?_
      refine lv_astore (lv' := [(5, .ref q9), (0, .ref (q 0)), (1, .int (iZ z1)), (2, .int (iZ z2)), (3, .int (iZ pl)), (4, .ref o)]) hx hb dL_dayInYear_20 hl (by decide) rfl (fun ls hl => ?_)
      refine lv_iconst (v := iZ 2) hx hb dL_dayInYear_22 rfl ?_
      refine W.widen (k := 3) (n := 18) (Nat.le_of_ble_eq_true rfl) (Nat.le_of_ble_eq_true rfl) ?_
      exact W.iret (v := iZ 2) hx hb hr (fun t ht hW => ⟨⟨congrArg (fun z : Int => Outcome.returned (some (Value.int (iZ z)))) (show 2 = ex2 (!inb z1 0 3 || !inb z2 0 3) (!inb pl 1 366) from hE.symm), by rw [ht]; exact ⟨gX_cast hG9 (if_neg (by rw [hE]; decide)).symm, sn, sv, fun z => absurd z (by rw [hE]; decide), hO8⟩⟩, hS.F ht⟩) hS.2.2 dL_dayInYear_23 hlocks
  obtain ⟨tb1, tn1, tm1, htn1, hfit1, htm1, hP1⟩ := hG1
  have hPO := hP1.app (hO.kept (H1 := H1) (fun i p hp => hk9 _ (hO i p hp).lt (by match i, hp with | 0, hp => cases hp; exact hno (hO 0 _ rfl).lt | n + 1, hp => cases hp)))
  generalize H1 = H at hPO hS ⊢
  clear hk9 hy9
  refine kz_w32 ?_
  refine kz_i2l hx hb (w32_rng _) dL_dayInYear_9 ?_
  refine va_putN (D := (dC, dI)) (ci := 5) (v := .long (lZ ((w32 (if pl ≤ ylen (σ 2 (z2.toNat)) then mop (leap (σ 2 (z2.toNat))) pl else -9))))) (ty := .long) (C := RX2) (T := TX2) (N := 2) hx hb hts (fun w h => List.mem_cons_of_mem _ (gF_1_in h)) tyX2 tyX2_ok nmX2 hown hM.1 hPO (kXO_D hq ho9) hS 9 rfl rfl 0 (by decide) (va_Nw.use rfl hL.1) (fun _ h9 => h9) rfl (by decide +kernel) rfl rfl (Nat.le_of_ble_eq_true rfl) dL_dayInYear_10 (fun H locs hPO hD hS => ?_)
  refine lv_goto (tgt := 24) hx hb dL_dayInYear_13 (by decide) ?_
  refine lv_iconst (v := iZ 0) hx hb dL_dayInYear_24 rfl ?_
  refine W.widen (k := 3) (n := 18) (Nat.le_of_ble_eq_true rfl) (Nat.le_of_ble_eq_true rfl) ?_
  exact W.iret (v := iZ 0) hx hb hr (fun t ht hW => ⟨⟨congrArg (fun z : Int => Outcome.returned (some (Value.int (iZ z)))) (show 0 = ex2 (!inb z1 0 3 || !inb z2 0 3) (!inb pl 1 366) from hE.symm), by rw [ht]; exact ⟨gX_cast ⟨tb1, tn1, tm1, htn1, hfit1, htm1, va_Pl (a := kX q dA (if pl ≤ ylen (σ 2 (z2.toNat)) then setD σ (z1.toNat) (σ 2 (z2.toNat)) (mop (leap (σ 2 (z2.toNat))) pl) (pl - ahead (leap (σ 2 (z2.toNat))) (mop (leap (σ 2 (z2.toNat))) pl)) else σ) tb1 (nI tn1) tm1) hPO⟩ (if_pos hE).symm, _, _, fun _ => rfl, va_Pr (a := kX q dA (if pl ≤ ylen (σ 2 (z2.toNat)) then setD σ (z1.toNat) (σ 2 (z2.toNat)) (mop (leap (σ 2 (z2.toNat))) pl) (pl - ahead (leap (σ 2 (z2.toNat))) (mop (leap (σ 2 (z2.toNat))) pl)) else σ) tb1 (nI tn1) tm1) hPO⟩⟩, hS.F ht⟩) hS.2.2 dL_dayInYear_25 hlocks

abbrev ww_L_dayOfFeast : List Cond := .codeWith yL_dayOfFeast cL_dayOfFeast 6 (some .int) [(0, 13, 16, 19), (0, 13, 20, 21)] :: gT
set_option maxHeartbeats 4000000 in
set_option maxRecDepth 100000 in
theorem c_L_dayOfFeast (l : Launch) (hst : l.stackTraces = false) (dC : Nat → ClassId) (dI : Nat → Nat → Nat) (dA : Nat → ClassId) (k : Nat → Nat) (q : Nat → Nat) (σ : Nat → Nat → Int) (H0 : Heap) (hG : gX dC dI dA q σ H0) (hOK : kOK σ) (hq : kQI q k) (o : Nat) (sn : Int) (sv : Value) (hO : va_P (dC, dI) vwCl [(o, .inr (5, [.long (lZ sn), sv]))] H0) (hko : k 0 ≤ o) (ho9 : ∀ i : Nat, i < 9 → q i ≠ o) (z1 : Int) (z2 : Int) (yy : Int) (rz1 : -2147483648 ≤ z1 ∧ z1 < 2147483648) (rz2 : -2147483648 ≤ z2 ∧ z2 < 2147483648) (ryy : -2147483648 ≤ yy ∧ yy < 2147483648) : Met l yL_dayOfFeast ww_L_dayOfFeast ({ frames := 11, cells := 3, slots := 18, locals := 365 }) (va_Pc [.ref (q 0), .int (iZ z1), .int (iZ z2), .int (iZ yy), .ref o] (fun U => U.heap = H0 ∧ kMJ dC dI dA k U ∧ kL U)) (kQ2 (some (.int (iZ (ex2 (!inb z1 0 3 || !inb z2 0 3) (!inb yy (-999999999) 999999999))))) (fun H => gX dC dI dA q (if ex2 (!inb z1 0 3 || !inb z2 0 3) (!inb yy (-999999999) 999999999) = 0 then (setD σ (z1.toNat) yy (σ 3 (z2.toNat)) (dayIn σ (z2.toNat) yy)) else σ) H ∧ gO dC dI o (fun n => ex2 (!inb z1 0 3 || !inb z2 0 3) (!inb yy (-999999999) 999999999) = 0 → n = w32 (1 + (dnum yy (σ 3 (z2.toNat)) (dayIn σ (z2.toNat) yy) + 3) % 7)) H) (kAO q o H0.size)) 3 18 (kAO q o H0.size) := by
  refine k_ofWH (cc := cL_dayOfFeast) (maxL := 6) (ret := (some .int)) (hh := [(0, 13, 16, 19), (0, 13, 20, 21)]) (by decide) rfl ?_
  intro p e s m args below meth c s₁ B hml hv
  obtain ⟨rfl, hH, hMJ, hL⟩ := hv
  subst hH
  have hM := hMJ.1
  have hAN : ∀ a, kAO q o s.heap.size a → k 0 ≤ a := kAO_N hq hko hM.2.1.1
  have hS : va_S (kAO q o s.heap.size) s.heap s.heap [] := va_S.rf
  have hno : o < s.heap.size → ¬ kA q s.heap.size o := fun h z => z.elim (fun ⟨i, hi, e9⟩ => ho9 i hi e9.symm) (fun y => absurd h (Nat.not_lt.mpr y))
  obtain ⟨tb, tn, tm, htn, hfit, htm, hPx⟩ := id hG
  have hx := B.exec
  have hb := B.bytes
  have hr := B.returns
  have hts := atoms_spec (ws := ww_L_dayOfFeast) B.pre
  have hown : s.vm.findClass RL = some m.cls := findClass_of_methodNamed B.named
  have hlocks := B.notSynchronized
  have hl := lv_entry ([.ref (q 0), .int (iZ z1), .int (iZ z2), .int (iZ yy), .ref o]) (n := 6) (Nat.le_of_ble_eq_true rfl)
  rw [lg_entry_eq]
  generalize (lg_sl ([.ref (q 0), .int (iZ z1), .int (iZ z2), .int (iZ yy), .ref o]) ++ List.replicate (6 - (lg_sl ([.ref (q 0), .int (iZ z1), .int (iZ z2), .int (iZ yy), .ref o])).length) Slot.unset).toArray = ls at hl ⊢
  have hl : lv_has ls 6 [(0, .ref (q 0)), (1, .int (iZ z1)), (2, .int (iZ z2)), (3, .int (iZ yy)), (4, .ref o)] := hl
  have hTab := vx_table (x := yL_dayOfFeast) B (hts _ List.mem_cons_self)
  refine lv_aload hx hb dL_dayOfFeast_0 (lv_at hl 4 rfl) ?_
  refine lv_aload_n hx hb dL_dayOfFeast_2 rfl (lv_at hl 0 rfl) ?_
  refine lv_iload_n hx hb dL_dayOfFeast_3 rfl (lv_at hl 1 rfl) ?_
  refine lv_iload_n hx hb dL_dayOfFeast_4 rfl (lv_at hl 2 rfl) ?_
  refine lv_iload_n hx hb dL_dayOfFeast_5 rfl (lv_at hl 3 rfl) ?_
  refine kcxc (vx_runV (As := [.int (iZ z1), .int (iZ z2), .int (iZ yy)]) (rest := [.ref o]) ⟨hx, hb, hml, hown, hts⟩ (c_X1_dayOfFeast l hst dC dI dA k q σ _ hG hOK hq z1 z2 yy rz1 rz2 ryy) (cwV 3 hts (kg_V mw860 mw861 mw862 mw42 rfl mw863) rfl rfl rfl hdV_X1_dayOfFeast ⟨Nat.le_of_ble_eq_true rfl, Nat.le_of_ble_eq_true rfl⟩) ⟨fun a U g mk q => ⟨q.1, q.2.1, kM_call q.2.2⟩, va_recv hM.1 hPx (ci := 4) (q0 := 0) rfl rfl, fun U hU hW => ⟨rfl, hU, kM_kept hM hS hAN hU hW⟩⟩ rfl rfl hl.1 rfl (lv_room (Nat.le_of_ble_eq_true rfl)) dL_dayOfFeast_6 ⟨Nat.le_of_ble_eq_true rfl, Nat.le_of_ble_eq_true rfl⟩) hS (fun a _ h => Or.inl h) (fun a h => Or.inl h) (fun E ce q9 H1 locs hE hy9 hk9 hS hce hcv hcl => ?_) (fun H1 locs hG1 hE hy9 hk9 hS => ?_)
  · have hG9 : gX dC dI dA q σ H1 := gX_kept hG (fun i _ h => hk9 _ h)
    have hO8 := hO.kept (H1 := H1) (fun i p hp => hk9 _ (hO i p hp).lt)
    rcases hE with ⟨hE, rfl⟩ | ⟨hE, rfl⟩
    · refine vx_catch (own := RL) (name := "java/lang/IndexOutOfBoundsException") hown [] ⟨0, 13, 16, 19⟩ [⟨0, 13, 20, 21⟩] hTab (fun z h => absurd h List.not_mem_nil) (by decide) (by decide) (hts _ (List.mem_cons_of_mem _ mw604)) (va_Nw.use rfl hL.2.2.1) hce hcv hcl ?_
      refine lv_astore (lv' := [(5, .ref q9), (0, .ref (q 0)), (1, .int (iZ z1)), (2, .int (iZ z2)), (3, .int (iZ yy)), (4, .ref o)]) hx hb dL_dayOfFeast_16 hl (by decide) rfl (fun ls hl => ?_)
      refine lv_iconst (v := iZ 1) hx hb dL_dayOfFeast_18 rfl ?_
      refine W.widen (k := 3) (n := 18) (Nat.le_of_ble_eq_true rfl) (Nat.le_of_ble_eq_true rfl) ?_
      exact W.iret (v := iZ 1) hx hb hr (fun t ht hW => ⟨⟨congrArg (fun z : Int => Outcome.returned (some (Value.int (iZ z)))) (show 1 = ex2 (!inb z1 0 3 || !inb z2 0 3) (!inb yy (-999999999) 999999999) from hE.symm), by rw [ht]; exact ⟨gX_cast hG9 (if_neg (by rw [hE]; decide)).symm, sn, sv, fun z => absurd z (by rw [hE]; decide), hO8⟩⟩, hS.F ht⟩) hS.2.2 dL_dayOfFeast_19 hlocks
    · refine vx_catch (own := RL) (name := "java/lang/IllegalArgumentException") hown [⟨0, 13, 16, 19⟩] ⟨0, 13, 20, 21⟩ [] hTab (fun z h => by cases List.mem_singleton.mp h; exact Or.inr ⟨by decide, "java/lang/IndexOutOfBoundsException", (hts _ (List.mem_cons_of_mem _ mw604)), hM.2.1.2.2.2.2.2.2.2.2.2.2.2⟩) (by decide) (by decide) (hts _ (List.mem_cons_of_mem _ mw605)) (va_Nw.use rfl hL.2.2.2) hce hcv hcl ?_
      refine lv_astore (lv' := [(5, .ref q9), (0, .ref (q 0)), (1, .int (iZ z1)), (2, .int (iZ z2)), (3, .int (iZ yy)), (4, .ref o)]) hx hb dL_dayOfFeast_20 hl (by decide) rfl (fun ls hl => ?_)
      refine lv_iconst (v := iZ 2) hx hb dL_dayOfFeast_22 rfl ?_
      refine W.widen (k := 3) (n := 18) (Nat.le_of_ble_eq_true rfl) (Nat.le_of_ble_eq_true rfl) ?_
      exact W.iret (v := iZ 2) hx hb hr (fun t ht hW => ⟨⟨congrArg (fun z : Int => Outcome.returned (some (Value.int (iZ z)))) (show 2 = ex2 (!inb z1 0 3 || !inb z2 0 3) (!inb yy (-999999999) 999999999) from hE.symm), by rw [ht]; exact ⟨gX_cast hG9 (if_neg (by rw [hE]; decide)).symm, sn, sv, fun z => absurd z (by rw [hE]; decide), hO8⟩⟩, hS.F ht⟩) hS.2.2 dL_dayOfFeast_23 hlocks
  obtain ⟨tb1, tn1, tm1, htn1, hfit1, htm1, hP1⟩ := hG1
  have hPO := hP1.app (hO.kept (H1 := H1) (fun i p hp => hk9 _ (hO i p hp).lt (by match i, hp with | 0, hp => cases hp; exact hno (hO 0 _ rfl).lt | n + 1, hp => cases hp)))
  generalize H1 = H at hPO hS ⊢
  clear hk9 hy9
  refine kz_w32 ?_
  refine kz_i2l hx hb (w32_rng _) dL_dayOfFeast_9 ?_
  refine va_putN (D := (dC, dI)) (ci := 5) (v := .long (lZ ((w32 (1 + (dnum yy (σ 3 (z2.toNat)) (dayIn σ (z2.toNat) yy) + 3) % 7))))) (ty := .long) (C := RX2) (T := TX2) (N := 2) hx hb hts (fun w h => List.mem_cons_of_mem _ (gF_1_in h)) tyX2 tyX2_ok nmX2 hown hM.1 hPO (kXO_D hq ho9) hS 9 rfl rfl 0 (by decide) (va_Nw.use rfl hL.1) (fun _ h9 => h9) rfl (by decide +kernel) rfl rfl (Nat.le_of_ble_eq_true rfl) dL_dayOfFeast_10 (fun H locs hPO hD hS => ?_)
  refine lv_goto (tgt := 24) hx hb dL_dayOfFeast_13 (by decide) ?_
  refine lv_iconst (v := iZ 0) hx hb dL_dayOfFeast_24 rfl ?_
  refine W.widen (k := 3) (n := 18) (Nat.le_of_ble_eq_true rfl) (Nat.le_of_ble_eq_true rfl) ?_
  exact W.iret (v := iZ 0) hx hb hr (fun t ht hW => ⟨⟨congrArg (fun z : Int => Outcome.returned (some (Value.int (iZ z)))) (show 0 = ex2 (!inb z1 0 3 || !inb z2 0 3) (!inb yy (-999999999) 999999999) from hE.symm), by rw [ht]; exact ⟨gX_cast ⟨tb1, tn1, tm1, htn1, hfit1, htm1, va_Pl (a := kX q dA (setD σ (z1.toNat) yy (σ 3 (z2.toNat)) (dayIn σ (z2.toNat) yy)) tb1 (nI tn1) tm1) hPO⟩ (if_pos hE).symm, _, _, fun _ => rfl, va_Pr (a := kX q dA (setD σ (z1.toNat) yy (σ 3 (z2.toNat)) (dayIn σ (z2.toNat) yy)) tb1 (nI tn1) tm1) hPO⟩⟩, hS.F ht⟩) hS.2.2 dL_dayOfFeast_25 hlocks

abbrev ww_L_dayOfYear : List Cond := .codeWith yL_dayOfYear cL_dayOfYear 6 (some .int) [(0, 13, 16, 19)] :: gT
set_option maxHeartbeats 4000000 in
set_option maxRecDepth 100000 in
theorem c_L_dayOfYear (l : Launch) (hst : l.stackTraces = false) (dC : Nat → ClassId) (dI : Nat → Nat → Nat) (dA : Nat → ClassId) (k : Nat → Nat) (q : Nat → Nat) (σ : Nat → Nat → Int) (H0 : Heap) (hG : gX dC dI dA q σ H0) (hOK : kOK σ) (hq : kQI q k) (o : Nat) (sn : Int) (sv : Value) (hO : va_P (dC, dI) vwCl [(o, .inr (5, [.long (lZ sn), sv]))] H0) (hko : k 0 ≤ o) (ho9 : ∀ i : Nat, i < 9 → q i ≠ o) (z1 : Int) (z2 : Int) (z3 : Int) (rz1 : -2147483648 ≤ z1 ∧ z1 < 2147483648) (rz2 : -2147483648 ≤ z2 ∧ z2 < 2147483648) (rz3 : -2147483648 ≤ z3 ∧ z3 < 2147483648) : Met l yL_dayOfYear ww_L_dayOfYear ({ frames := 10, cells := 3, slots := 18, locals := 343 }) (va_Pc [.ref (q 0), .int (iZ z1), .int (iZ z2), .int (iZ z3), .ref o] (fun U => U.heap = H0 ∧ kMJ dC dI dA k U ∧ kL U)) (kQ2 (some (.int (iZ (ex2 ((!inb z1 0 3 || !inb z2 0 3) || !inb z3 0 3) (false))))) (fun H => gX dC dI dA q (if ex2 ((!inb z1 0 3 || !inb z2 0 3) || !inb z3 0 3) (false) = 0 then (setD σ (z1.toNat) (σ 2 (z2.toNat)) (σ 3 (z3.toNat)) (dayIn σ (z3.toNat) (σ 2 (z2.toNat)))) else σ) H ∧ gO dC dI o (fun n => ex2 ((!inb z1 0 3 || !inb z2 0 3) || !inb z3 0 3) (false) = 0 → n = w32 (dayIn σ (z3.toNat) (σ 2 (z2.toNat)))) H) (kAO q o H0.size)) 3 18 (kAO q o H0.size) := by
  refine k_ofWH (cc := cL_dayOfYear) (maxL := 6) (ret := (some .int)) (hh := [(0, 13, 16, 19)]) (by decide) rfl ?_
  intro p e s m args below meth c s₁ B hml hv
  obtain ⟨rfl, hH, hMJ, hL⟩ := hv
  subst hH
  have hM := hMJ.1
  have hAN : ∀ a, kAO q o s.heap.size a → k 0 ≤ a := kAO_N hq hko hM.2.1.1
  have hS : va_S (kAO q o s.heap.size) s.heap s.heap [] := va_S.rf
  have hno : o < s.heap.size → ¬ kA q s.heap.size o := fun h z => z.elim (fun ⟨i, hi, e9⟩ => ho9 i hi e9.symm) (fun y => absurd h (Nat.not_lt.mpr y))
  obtain ⟨tb, tn, tm, htn, hfit, htm, hPx⟩ := id hG
  have hx := B.exec
  have hb := B.bytes
  have hr := B.returns
  have hts := atoms_spec (ws := ww_L_dayOfYear) B.pre
  have hown : s.vm.findClass RL = some m.cls := findClass_of_methodNamed B.named
  have hlocks := B.notSynchronized
  have hl := lv_entry ([.ref (q 0), .int (iZ z1), .int (iZ z2), .int (iZ z3), .ref o]) (n := 6) (Nat.le_of_ble_eq_true rfl)
  rw [lg_entry_eq]
  generalize (lg_sl ([.ref (q 0), .int (iZ z1), .int (iZ z2), .int (iZ z3), .ref o]) ++ List.replicate (6 - (lg_sl ([.ref (q 0), .int (iZ z1), .int (iZ z2), .int (iZ z3), .ref o])).length) Slot.unset).toArray = ls at hl ⊢
  have hl : lv_has ls 6 [(0, .ref (q 0)), (1, .int (iZ z1)), (2, .int (iZ z2)), (3, .int (iZ z3)), (4, .ref o)] := hl
  have hTab := vx_table (x := yL_dayOfYear) B (hts _ List.mem_cons_self)
  refine lv_aload hx hb dL_dayOfYear_0 (lv_at hl 4 rfl) ?_
  refine lv_aload_n hx hb dL_dayOfYear_2 rfl (lv_at hl 0 rfl) ?_
  refine lv_iload_n hx hb dL_dayOfYear_3 rfl (lv_at hl 1 rfl) ?_
  refine lv_iload_n hx hb dL_dayOfYear_4 rfl (lv_at hl 2 rfl) ?_
  refine lv_iload_n hx hb dL_dayOfYear_5 rfl (lv_at hl 3 rfl) ?_
  refine kcxc (vx_runV (As := [.int (iZ z1), .int (iZ z2), .int (iZ z3)]) (rest := [.ref o]) ⟨hx, hb, hml, hown, hts⟩ (c_X1_dayOfYear l hst dC dI dA k q σ _ hG hOK hq z1 z2 z3 rz1 rz2 rz3) (cwV 3 hts (kg_V mw870 mw871 mw872 mw42 rfl mw873) rfl rfl rfl hdV_X1_dayOfYear ⟨Nat.le_of_ble_eq_true rfl, Nat.le_of_ble_eq_true rfl⟩) ⟨fun a U g mk q => ⟨q.1, q.2.1, kM_call q.2.2⟩, va_recv hM.1 hPx (ci := 4) (q0 := 0) rfl rfl, fun U hU hW => ⟨rfl, hU, kM_kept hM hS hAN hU hW⟩⟩ rfl rfl hl.1 rfl (lv_room (Nat.le_of_ble_eq_true rfl)) dL_dayOfYear_6 ⟨Nat.le_of_ble_eq_true rfl, Nat.le_of_ble_eq_true rfl⟩) hS (fun a _ h => Or.inl h) (fun a h => Or.inl h) (fun E ce q9 H1 locs hE hy9 hk9 hS hce hcv hcl => ?_) (fun H1 locs hG1 hE hy9 hk9 hS => ?_)
  · have hG9 : gX dC dI dA q σ H1 := gX_kept hG (fun i _ h => hk9 _ h)
    have hO8 := hO.kept (H1 := H1) (fun i p hp => hk9 _ (hO i p hp).lt)
    rcases hE with ⟨hE, rfl⟩ | ⟨hE, rfl⟩
    · refine vx_catch (own := RL) (name := "java/lang/IndexOutOfBoundsException") hown [] ⟨0, 13, 16, 19⟩ [] hTab (fun z h => absurd h List.not_mem_nil) (by decide) (by decide) (hts _ (List.mem_cons_of_mem _ mw604)) (va_Nw.use rfl hL.2.2.1) hce hcv hcl ?_
      refine lv_astore (lv' := [(5, .ref q9), (0, .ref (q 0)), (1, .int (iZ z1)), (2, .int (iZ z2)), (3, .int (iZ z3)), (4, .ref o)]) hx hb dL_dayOfYear_16 hl (by decide) rfl (fun ls hl => ?_)
      refine lv_iconst (v := iZ 1) hx hb dL_dayOfYear_18 rfl ?_
      refine W.widen (k := 3) (n := 18) (Nat.le_of_ble_eq_true rfl) (Nat.le_of_ble_eq_true rfl) ?_
      exact W.iret (v := iZ 1) hx hb hr (fun t ht hW => ⟨⟨congrArg (fun z : Int => Outcome.returned (some (Value.int (iZ z)))) (show 1 = ex2 ((!inb z1 0 3 || !inb z2 0 3) || !inb z3 0 3) (false) from hE.symm), by rw [ht]; exact ⟨gX_cast hG9 (if_neg (by rw [hE]; decide)).symm, sn, sv, fun z => absurd z (by rw [hE]; decide), hO8⟩⟩, hS.F ht⟩) hS.2.2 dL_dayOfYear_19 hlocks
    · exact absurd hE ex2_no2
  obtain ⟨tb1, tn1, tm1, htn1, hfit1, htm1, hP1⟩ := hG1
  have hPO := hP1.app (hO.kept (H1 := H1) (fun i p hp => hk9 _ (hO i p hp).lt (by match i, hp with | 0, hp => cases hp; exact hno (hO 0 _ rfl).lt | n + 1, hp => cases hp)))
  generalize H1 = H at hPO hS ⊢
  clear hk9 hy9
  refine kz_w32 ?_
  refine kz_i2l hx hb (w32_rng _) dL_dayOfYear_9 ?_
  refine va_putN (D := (dC, dI)) (ci := 5) (v := .long (lZ ((w32 (dayIn σ (z3.toNat) (σ 2 (z2.toNat))))))) (ty := .long) (C := RX2) (T := TX2) (N := 2) hx hb hts (fun w h => List.mem_cons_of_mem _ (gF_1_in h)) tyX2 tyX2_ok nmX2 hown hM.1 hPO (kXO_D hq ho9) hS 9 rfl rfl 0 (by decide) (va_Nw.use rfl hL.1) (fun _ h9 => h9) rfl (by decide +kernel) rfl rfl (Nat.le_of_ble_eq_true rfl) dL_dayOfYear_10 (fun H locs hPO hD hS => ?_)
  refine lv_goto (tgt := 20) hx hb dL_dayOfYear_13 (by decide) ?_
  refine lv_iconst (v := iZ 0) hx hb dL_dayOfYear_20 rfl ?_
  refine W.widen (k := 3) (n := 18) (Nat.le_of_ble_eq_true rfl) (Nat.le_of_ble_eq_true rfl) ?_
  exact W.iret (v := iZ 0) hx hb hr (fun t ht hW => ⟨⟨congrArg (fun z : Int => Outcome.returned (some (Value.int (iZ z)))) (show 0 = ex2 ((!inb z1 0 3 || !inb z2 0 3) || !inb z3 0 3) (false) from hE.symm), by rw [ht]; exact ⟨gX_cast ⟨tb1, tn1, tm1, htn1, hfit1, htm1, va_Pl (a := kX q dA (setD σ (z1.toNat) (σ 2 (z2.toNat)) (σ 3 (z3.toNat)) (dayIn σ (z3.toNat) (σ 2 (z2.toNat)))) tb1 (nI tn1) tm1) hPO⟩ (if_pos hE).symm, _, _, fun _ => rfl, va_Pr (a := kX q dA (setD σ (z1.toNat) (σ 2 (z2.toNat)) (σ 3 (z3.toNat)) (dayIn σ (z3.toNat) (σ 2 (z2.toNat)))) tb1 (nI tn1) tm1) hPO⟩⟩, hS.F ht⟩) hS.2.2 dL_dayOfYear_21 hlocks

abbrev ww_L_ofLeaf : List Cond := .codeWith yL_ofLeaf cL_ofLeaf 5 (some .int) [(0, 11, 14, 19), (0, 11, 18, 21)] :: gT
set_option maxHeartbeats 4000000 in
set_option maxRecDepth 100000 in
theorem c_L_ofLeaf (l : Launch) (hst : l.stackTraces = false) (dC : Nat → ClassId) (dI : Nat → Nat → Nat) (dA : Nat → ClassId) (k : Nat → Nat) (q : Nat → Nat) (σ : Nat → Nat → Int) (H0 : Heap) (hG : gX dC dI dA q σ H0) (hOK : kOK σ) (hq : kQI q k) (o : Nat) (sn : Int) (sv : Value) (hO : va_P (dC, dI) vwCl [(o, .inr (5, [.long (lZ sn), sv]))] H0) (hko : k 0 ≤ o) (ho9 : ∀ i : Nat, i < 9 → q i ≠ o) (z1 : Int) (w0 : Int) (rz1 : -2147483648 ≤ z1 ∧ z1 < 2147483648) (rw0 : -2147483648 ≤ w0 ∧ w0 < 2147483648) : Met l yL_ofLeaf ww_L_ofLeaf ({ frames := 10, cells := 2, slots := 12, locals := 347 }) (va_Pc [.ref (q 0), .int (iZ z1), .int (iZ w0), .ref o] (fun U => U.heap = H0 ∧ kMJ dC dI dA k U ∧ kL U)) (kQ2 (some (.int (iZ (ex2 (!inb z1 0 3) (!inb w0 0 7))))) (fun H => gX dC dI dA q (if ex2 (!inb z1 0 3) (!inb w0 0 7) = 0 then (σ) else σ) H ∧ gO dC dI o (fun n => ex2 (!inb z1 0 3) (!inb w0 0 7) = 0 → n = w32 (ofL σ (z1.toNat) w0)) H) (kAO q o H0.size)) 2 12 (kAO q o H0.size) := by
  refine k_ofWH (cc := cL_ofLeaf) (maxL := 5) (ret := (some .int)) (hh := [(0, 11, 14, 19), (0, 11, 18, 21)]) (by decide) rfl ?_
  intro p e s m args below meth c s₁ B hml hv
  obtain ⟨rfl, hH, hMJ, hL⟩ := hv
  subst hH
  have hM := hMJ.1
  have hAN : ∀ a, kAO q o s.heap.size a → k 0 ≤ a := kAO_N hq hko hM.2.1.1
  have hS : va_S (kAO q o s.heap.size) s.heap s.heap [] := va_S.rf
  have hno : o < s.heap.size → ¬ kA q s.heap.size o := fun h z => z.elim (fun ⟨i, hi, e9⟩ => ho9 i hi e9.symm) (fun y => absurd h (Nat.not_lt.mpr y))
  obtain ⟨tb, tn, tm, htn, hfit, htm, hPx⟩ := id hG
  have hx := B.exec
  have hb := B.bytes
  have hr := B.returns
  have hts := atoms_spec (ws := ww_L_ofLeaf) B.pre
  have hown : s.vm.findClass RL = some m.cls := findClass_of_methodNamed B.named
  have hlocks := B.notSynchronized
  have hl := lv_entry ([.ref (q 0), .int (iZ z1), .int (iZ w0), .ref o]) (n := 5) (Nat.le_of_ble_eq_true rfl)
  rw [lg_entry_eq]
  generalize (lg_sl ([.ref (q 0), .int (iZ z1), .int (iZ w0), .ref o]) ++ List.replicate (5 - (lg_sl ([.ref (q 0), .int (iZ z1), .int (iZ w0), .ref o])).length) Slot.unset).toArray = ls at hl ⊢
  have hl : lv_has ls 5 [(0, .ref (q 0)), (1, .int (iZ z1)), (2, .int (iZ w0)), (3, .ref o)] := hl
  have hTab := vx_table (x := yL_ofLeaf) B (hts _ List.mem_cons_self)
  refine lv_aload_n hx hb dL_ofLeaf_0 rfl (lv_at hl 3 rfl) ?_
  refine lv_aload_n hx hb dL_ofLeaf_1 rfl (lv_at hl 0 rfl) ?_
  refine lv_iload_n hx hb dL_ofLeaf_2 rfl (lv_at hl 1 rfl) ?_
  refine lv_iload_n hx hb dL_ofLeaf_3 rfl (lv_at hl 2 rfl) ?_
  refine kcxc (vx_runV (As := [.int (iZ z1), .int (iZ w0)]) (rest := [.ref o]) ⟨hx, hb, hml, hown, hts⟩ (c_X1_ofLeaf l hst dC dI dA k q σ _ hG hOK hq z1 w0 rz1 rw0) (cwV 2 hts (kg_V mw877 mw221 mw222 mw42 rfl mw223) rfl rfl rfl hdV_X1_ofLeaf ⟨Nat.le_of_ble_eq_true rfl, Nat.le_of_ble_eq_true rfl⟩) ⟨fun a U g mk q => ⟨q.1, q.2.1, kM_call q.2.2⟩, va_recv hM.1 hPx (ci := 4) (q0 := 0) rfl rfl, fun U hU hW => ⟨rfl, hU, kM_kept hM hS hAN hU hW⟩⟩ rfl rfl hl.1 rfl (lv_room (Nat.le_of_ble_eq_true rfl)) dL_ofLeaf_4 ⟨Nat.le_of_ble_eq_true rfl, Nat.le_of_ble_eq_true rfl⟩) hS (fun a _ h => Or.inl h) (fun a h => Or.inl h) (fun E ce q9 H1 locs hE hy9 hk9 hS hce hcv hcl => ?_) (fun H1 locs hG1 hE hy9 hk9 hS => ?_)
  · have hG9 : gX dC dI dA q σ H1 := gX_kept hG (fun i _ h => hk9 _ h)
    have hO8 := hO.kept (H1 := H1) (fun i p hp => hk9 _ (hO i p hp).lt)
    rcases hE with ⟨hE, rfl⟩ | ⟨hE, rfl⟩
    · refine vx_catch (own := RL) (name := "java/lang/IndexOutOfBoundsException") hown [] ⟨0, 11, 14, 19⟩ [⟨0, 11, 18, 21⟩] hTab (fun z h => absurd h List.not_mem_nil) (by decide) (by decide) (hts _ (List.mem_cons_of_mem _ mw604)) (va_Nw.use rfl hL.2.2.1) hce hcv hcl ?_
      refine lv_astore (lv' := [(4, .ref q9), (0, .ref (q 0)), (1, .int (iZ z1)), (2, .int (iZ w0)), (3, .ref o)]) hx hb dL_ofLeaf_14 hl (by decide) rfl (fun ls hl => ?_)
      refine lv_iconst (v := iZ 1) hx hb dL_ofLeaf_16 rfl ?_
      refine W.widen (k := 2) (n := 12) (Nat.le_of_ble_eq_true rfl) (Nat.le_of_ble_eq_true rfl) ?_
      exact W.iret (v := iZ 1) hx hb hr (fun t ht hW => ⟨⟨congrArg (fun z : Int => Outcome.returned (some (Value.int (iZ z)))) (show 1 = ex2 (!inb z1 0 3) (!inb w0 0 7) from hE.symm), by rw [ht]; exact ⟨gX_cast hG9 (if_neg (by rw [hE]; decide)).symm, sn, sv, fun z => absurd z (by rw [hE]; decide), hO8⟩⟩, hS.F ht⟩) hS.2.2 dL_ofLeaf_17 hlocks
    · refine vx_catch (own := RL) (name := "java/lang/IllegalArgumentException") hown [⟨0, 11, 14, 19⟩] ⟨0, 11, 18, 21⟩ [] hTab (fun z h => by cases List.mem_singleton.mp h; exact Or.inr ⟨by decide, "java/lang/IndexOutOfBoundsException", (hts _ (List.mem_cons_of_mem _ mw604)), hM.2.1.2.2.2.2.2.2.2.2.2.2.2⟩) (by decide) (by decide) (hts _ (List.mem_cons_of_mem _ mw605)) (va_Nw.use rfl hL.2.2.2) hce hcv hcl ?_
      refine lv_astore (lv' := [(4, .ref q9), (0, .ref (q 0)), (1, .int (iZ z1)), (2, .int (iZ w0)), (3, .ref o)]) hx hb dL_ofLeaf_18 hl (by decide) rfl (fun ls hl => ?_)
      refine lv_iconst (v := iZ 2) hx hb dL_ofLeaf_20 rfl ?_
      refine W.widen (k := 2) (n := 12) (Nat.le_of_ble_eq_true rfl) (Nat.le_of_ble_eq_true rfl) ?_
      exact W.iret (v := iZ 2) hx hb hr (fun t ht hW => ⟨⟨congrArg (fun z : Int => Outcome.returned (some (Value.int (iZ z)))) (show 2 = ex2 (!inb z1 0 3) (!inb w0 0 7) from hE.symm), by rw [ht]; exact ⟨gX_cast hG9 (if_neg (by rw [hE]; decide)).symm, sn, sv, fun z => absurd z (by rw [hE]; decide), hO8⟩⟩, hS.F ht⟩) hS.2.2 dL_ofLeaf_21 hlocks
  obtain ⟨tb1, tn1, tm1, htn1, hfit1, htm1, hP1⟩ := hG1
  have hPO := hP1.app (hO.kept (H1 := H1) (fun i p hp => hk9 _ (hO i p hp).lt (by match i, hp with | 0, hp => cases hp; exact hno (hO 0 _ rfl).lt | n + 1, hp => cases hp)))
  generalize H1 = H at hPO hS ⊢
  clear hk9 hy9
  refine kz_w32 ?_
  refine kz_i2l hx hb (w32_rng _) dL_ofLeaf_7 ?_
  refine va_putN (D := (dC, dI)) (ci := 5) (v := .long (lZ ((w32 (ofL σ (z1.toNat) w0))))) (ty := .long) (C := RX2) (T := TX2) (N := 2) hx hb hts (fun w h => List.mem_cons_of_mem _ (gF_1_in h)) tyX2 tyX2_ok nmX2 hown hM.1 hPO (kXO_D hq ho9) hS 9 rfl rfl 0 (by decide) (va_Nw.use rfl hL.1) (fun _ h9 => h9) rfl (by decide +kernel) rfl rfl (Nat.le_of_ble_eq_true rfl) dL_ofLeaf_8 (fun H locs hPO hD hS => ?_)
  refine lv_goto (tgt := 22) hx hb dL_ofLeaf_11 (by decide) ?_
  refine lv_iconst (v := iZ 0) hx hb dL_ofLeaf_22 rfl ?_
  refine W.widen (k := 2) (n := 12) (Nat.le_of_ble_eq_true rfl) (Nat.le_of_ble_eq_true rfl) ?_
  exact W.iret (v := iZ 0) hx hb hr (fun t ht hW => ⟨⟨congrArg (fun z : Int => Outcome.returned (some (Value.int (iZ z)))) (show 0 = ex2 (!inb z1 0 3) (!inb w0 0 7) from hE.symm), by rw [ht]; exact ⟨gX_cast ⟨tb1, tn1, tm1, htn1, hfit1, htm1, va_Pl (a := kX q dA (σ) tb1 (nI tn1) tm1) hPO⟩ (if_pos hE).symm, _, _, fun _ => rfl, va_Pr (a := kX q dA (σ) tb1 (nI tn1) tm1) hPO⟩⟩, hS.F ht⟩) hS.2.2 dL_ofLeaf_23 hlocks

abbrev ww_L_count : List Cond := .codeWith yL_count cL_count 4 (some .int) [(0, 9, 12, 19)] :: gT
set_option maxHeartbeats 4000000 in
set_option maxRecDepth 100000 in
theorem c_L_count (l : Launch) (hst : l.stackTraces = false) (dC : Nat → ClassId) (dI : Nat → Nat → Nat) (dA : Nat → ClassId) (k : Nat → Nat) (q : Nat → Nat) (σ : Nat → Nat → Int) (H0 : Heap) (hG : gX dC dI dA q σ H0) (hOK : kOK σ) (hq : kQI q k) (o : Nat) (sn : Int) (sv : Value) (hO : va_P (dC, dI) vwCl [(o, .inr (5, [.long (lZ sn), sv]))] H0) (hko : k 0 ≤ o) (ho9 : ∀ i : Nat, i < 9 → q i ≠ o) (z1 : Int) (rz1 : -2147483648 ≤ z1 ∧ z1 < 2147483648) : Met l yL_count ww_L_count ({ frames := 10, cells := 3, slots := 26, locals := 341 }) (va_Pc [.ref (q 0), .int (iZ z1), .ref o] (fun U => U.heap = H0 ∧ kMJ dC dI dA k U ∧ kL U)) (kQ2 (some (.int (iZ (ex2 (!inb z1 0 3) (false))))) (fun H => gX dC dI dA q (if ex2 (!inb z1 0 3) (false) = 0 then σ else σ) H ∧ gOS dC dI dA o H0.size (ex2 (!inb z1 0 3) (false) = 0) (cnt (σ 0 z1.toNat) (σ 1 z1.toNat)) H) (kAO q o H0.size)) 3 26 (kAO q o H0.size) := by
  refine k_ofWH (cc := cL_count) (maxL := 4) (ret := (some .int)) (hh := [(0, 9, 12, 19)]) (by decide) rfl ?_
  intro p e s m args below meth c s₁ B hml hv
  obtain ⟨rfl, hH, hMJ, hL⟩ := hv
  subst hH
  have hM := hMJ.1
  have hAN : ∀ a, kAO q o s.heap.size a → k 0 ≤ a := kAO_N hq hko hM.2.1.1
  have hS : va_S (kAO q o s.heap.size) s.heap s.heap [] := va_S.rf
  have hno : o < s.heap.size → ¬ kA q s.heap.size o := fun h z => z.elim (fun ⟨i, hi, e9⟩ => ho9 i hi e9.symm) (fun y => absurd h (Nat.not_lt.mpr y))
  obtain ⟨tb, tn, tm, htn, hfit, htm, hPx⟩ := id hG
  have hx := B.exec
  have hb := B.bytes
  have hr := B.returns
  have hts := atoms_spec (ws := ww_L_count) B.pre
  have hown : s.vm.findClass RL = some m.cls := findClass_of_methodNamed B.named
  have hlocks := B.notSynchronized
  have hl := lv_entry ([.ref (q 0), .int (iZ z1), .ref o]) (n := 4) (Nat.le_of_ble_eq_true rfl)
  rw [lg_entry_eq]
  generalize (lg_sl ([.ref (q 0), .int (iZ z1), .ref o]) ++ List.replicate (4 - (lg_sl ([.ref (q 0), .int (iZ z1), .ref o])).length) Slot.unset).toArray = ls at hl ⊢
  have hl : lv_has ls 4 [(0, .ref (q 0)), (1, .int (iZ z1)), (2, .ref o)] := hl
  have hTab := vx_table (x := yL_count) B (hts _ List.mem_cons_self)
  refine lv_aload_n hx hb dL_count_0 rfl (lv_at hl 2 rfl) ?_
  refine lv_aload_n hx hb dL_count_1 rfl (lv_at hl 0 rfl) ?_
  refine lv_iload_n hx hb dL_count_2 rfl (lv_at hl 1 rfl) ?_
  refine kcxr (vx_runV (As := [.int (iZ z1)]) (rest := [.ref o]) ⟨hx, hb, hml, hown, hts⟩ (c_X1_count l hst dC dI dA k q σ _ hG hOK hq z1 rz1) (cwV 1 hts (kg_V mw881 mw882 mw883 mw42 rfl mw884) rfl rfl rfl hdV_X1_count ⟨Nat.le_of_ble_eq_true rfl, Nat.le_of_ble_eq_true rfl⟩) ⟨fun a U g mk q => ⟨q.1, q.2.1, kMJ_call q.2.2⟩, va_recv hM.1 hPx (ci := 4) (q0 := 0) rfl rfl, fun U hU hW => ⟨rfl, hU, kMJ_kept hMJ hS hAN hU hW⟩⟩ rfl rfl hl.1 rfl (lv_room (Nat.le_of_ble_eq_true rfl)) dL_count_3 ⟨Nat.le_of_ble_eq_true rfl, Nat.le_of_ble_eq_true rfl⟩) hS (fun a _ h => Or.inl h) (fun a h => Or.inl h) (fun E ce q9 H1 locs hE hy9 hk9 hS hce hcv hcl => ?_) (fun x9 H1 locs hG1 hE hy9 hk9 hS => ?_)
  · have hG9 : gX dC dI dA q σ H1 := gX_kept hG (fun i _ h => hk9 _ h)
    have hO8 := hO.kept (H1 := H1) (fun i p hp => hk9 _ (hO i p hp).lt)
    rcases hE with ⟨hE, rfl⟩ | ⟨hE, rfl⟩
    · refine vx_catch (own := RL) (name := "java/lang/IndexOutOfBoundsException") hown [] ⟨0, 9, 12, 19⟩ [] hTab (fun z h => absurd h List.not_mem_nil) (by decide) (by decide) (hts _ (List.mem_cons_of_mem _ mw604)) (va_Nw.use rfl hL.2.2.1) hce hcv hcl ?_
      refine lv_astore_n (lv' := [(3, .ref q9), (0, .ref (q 0)), (1, .int (iZ z1)), (2, .ref o)]) hx hb dL_count_12 rfl hl (by decide) rfl (fun ls hl => ?_)
      refine lv_iconst (v := iZ 1) hx hb dL_count_13 rfl ?_
      refine W.widen (k := 3) (n := 26) (Nat.le_of_ble_eq_true rfl) (Nat.le_of_ble_eq_true rfl) ?_
      exact W.iret (v := iZ 1) hx hb hr (fun t ht hW => ⟨⟨congrArg (fun z : Int => Outcome.returned (some (Value.int (iZ z)))) (show 1 = ex2 (!inb z1 0 3) (false) from hE.symm), by rw [ht]; exact ⟨gX_cast hG9 (if_neg (by rw [hE]; decide)).symm, sn, sv, hO8, fun z => absurd z (by rw [hE]; decide)⟩⟩, hS.F ht⟩) hS.2.2 dL_count_14 hlocks
    · exact absurd hE ex2_no2
  obtain ⟨⟨tb1, tn1, tm1, htn1, hfit1, htm1, hP1⟩, w9, g9, ⟨hx9, hw9, hxw⟩, ht9, hT9⟩ := hG1
  have hPO := (hP1.app (hO.kept (H1 := H1) (fun i p hp => hk9 _ (hO i p hp).lt (by match i, hp with | 0, hp => cases hp; exact hno (hO 0 _ rfl).lt | n + 1, hp => cases hp)))).app hT9
  generalize H1 = H at hPO hS ⊢
  clear hk9 hy9
  refine va_putN (D := (dC, dI)) (ci := 5) (v := .ref x9) (ty := .object "java/lang/String") (C := RX2) (T := TX2) (N := 2) hx hb hts (fun w h => List.mem_cons_of_mem _ (gF_1_in h)) tyX2 tyX2_ok nmX2 hown hM.1 hPO (kXOS_D hq ho9 (gX_ltT hG) (hO 0 _ rfl).lt hx9 hw9 hxw) hS 9 rfl rfl 1 (by decide) (va_Nw.use rfl hL.2.1) (fun _ h9 => h9) rfl (by decide +kernel) rfl rfl (Nat.le_of_ble_eq_true rfl) dL_count_6 (fun H locs hPO hD hS => ?_)
  have hPO : va_P (dC, dI) vwCl (kX q dA σ tb1 (nI tn1) tm1 ++ [(o, .inr (5, [.long (lZ sn), .ref x9]))] ++ kS x9 w9 dA g9 (TL (cnt (σ 0 z1.toNat) (σ 1 z1.toNat)))) _ := hPO
  refine lv_goto (tgt := 15) hx hb dL_count_9 (by decide) ?_
  refine lv_iconst (v := iZ 0) hx hb dL_count_15 rfl ?_
  refine W.widen (k := 3) (n := 26) (Nat.le_of_ble_eq_true rfl) (Nat.le_of_ble_eq_true rfl) ?_
  exact W.iret (v := iZ 0) hx hb hr (fun t ht hW => ⟨⟨congrArg (fun z : Int => Outcome.returned (some (Value.int (iZ z)))) (show 0 = ex2 (!inb z1 0 3) (false) from hE.symm), by rw [ht]; exact ⟨gX_cast ⟨tb1, tn1, tm1, htn1, hfit1, htm1, va_Pl (a := kX q dA σ tb1 (nI tn1) tm1) (va_Pl hPO)⟩ (if_pos hE).symm, sn, .ref x9, va_Pr (a := kX q dA σ tb1 (nI tn1) tm1) (va_Pl hPO), fun _ => ⟨x9, rfl, w9, g9, ⟨hx9, hw9, hxw⟩, ht9, va_Pr hPO⟩⟩⟩, hS.F ht⟩) hS.2.2 dL_count_16 hlocks

abbrev ww_L_hasDay : List Cond := .codeWith yL_hasDay cL_hasDay 5 (some .int) [(0, 18, 21, 19)] :: gT
set_option maxHeartbeats 4000000 in
set_option maxRecDepth 100000 in
theorem c_L_hasDay (l : Launch) (hst : l.stackTraces = false) (dC : Nat → ClassId) (dI : Nat → Nat → Nat) (dA : Nat → ClassId) (k : Nat → Nat) (q : Nat → Nat) (σ : Nat → Nat → Int) (H0 : Heap) (hG : gX dC dI dA q σ H0) (hOK : kOK σ) (hq : kQI q k) (o : Nat) (sn : Int) (sv : Value) (hO : va_P (dC, dI) vwCl [(o, .inr (5, [.long (lZ sn), sv]))] H0) (hko : k 0 ≤ o) (ho9 : ∀ i : Nat, i < 9 → q i ≠ o) (z1 : Int) (nn : Int) (rz1 : -2147483648 ≤ z1 ∧ z1 < 2147483648) (rnn : -2147483648 ≤ nn ∧ nn < 2147483648) : Met l yL_hasDay ww_L_hasDay ({ frames := 10, cells := 1, slots := 6, locals := 342 }) (va_Pc [.ref (q 0), .int (iZ z1), .int (iZ nn), .ref o] (fun U => U.heap = H0 ∧ kMJ dC dI dA k U ∧ kL U)) (kQ2 (some (.int (iZ (ex2 (!inb z1 0 3) (false))))) (fun H => gX dC dI dA q (if ex2 (!inb z1 0 3) (false) = 0 then (σ) else σ) H ∧ gO dC dI o (fun n => ex2 (!inb z1 0 3) (false) = 0 → n = bZ (decide (1 ≤ nn ∧ nn ≤ mlen (leap (σ 0 (z1.toNat))) (σ 1 (z1.toNat))))) H) (kAO q o H0.size)) 1 6 (kAO q o H0.size) := by
  refine k_ofWH (cc := cL_hasDay) (maxL := 5) (ret := (some .int)) (hh := [(0, 18, 21, 19)]) (by decide) rfl ?_
  intro p e s m args below meth c s₁ B hml hv
  obtain ⟨rfl, hH, hMJ, hL⟩ := hv
  subst hH
  have hM := hMJ.1
  have hAN : ∀ a, kAO q o s.heap.size a → k 0 ≤ a := kAO_N hq hko hM.2.1.1
  have hS : va_S (kAO q o s.heap.size) s.heap s.heap [] := va_S.rf
  have hno : o < s.heap.size → ¬ kA q s.heap.size o := fun h z => z.elim (fun ⟨i, hi, e9⟩ => ho9 i hi e9.symm) (fun y => absurd h (Nat.not_lt.mpr y))
  obtain ⟨tb, tn, tm, htn, hfit, htm, hPx⟩ := id hG
  have hx := B.exec
  have hb := B.bytes
  have hr := B.returns
  have hts := atoms_spec (ws := ww_L_hasDay) B.pre
  have hown : s.vm.findClass RL = some m.cls := findClass_of_methodNamed B.named
  have hlocks := B.notSynchronized
  have hl := lv_entry ([.ref (q 0), .int (iZ z1), .int (iZ nn), .ref o]) (n := 5) (Nat.le_of_ble_eq_true rfl)
  rw [lg_entry_eq]
  generalize (lg_sl ([.ref (q 0), .int (iZ z1), .int (iZ nn), .ref o]) ++ List.replicate (5 - (lg_sl ([.ref (q 0), .int (iZ z1), .int (iZ nn), .ref o])).length) Slot.unset).toArray = ls at hl ⊢
  have hl : lv_has ls 5 [(0, .ref (q 0)), (1, .int (iZ z1)), (2, .int (iZ nn)), (3, .ref o)] := hl
  have hTab := vx_table (x := yL_hasDay) B (hts _ List.mem_cons_self)
  refine lv_aload_n hx hb dL_hasDay_0 rfl (lv_at hl 3 rfl) ?_
  refine lv_aload_n hx hb dL_hasDay_1 rfl (lv_at hl 0 rfl) ?_
  refine lv_iload_n hx hb dL_hasDay_2 rfl (lv_at hl 1 rfl) ?_
  refine lv_iload_n hx hb dL_hasDay_3 rfl (lv_at hl 2 rfl) ?_
  refine kcxc (vx_runV (As := [.int (iZ z1), .int (iZ nn)]) (rest := [.ref o]) ⟨hx, hb, hml, hown, hts⟩ (c_X1_hasDay l hst dC dI dA k q σ _ hG hOK hq z1 nn rz1 rnn) (cwV 2 hts (kg_V mw892 mw893 mw894 mw42 rfl mw895) rfl rfl rfl hdV_X1_hasDay ⟨Nat.le_of_ble_eq_true rfl, Nat.le_of_ble_eq_true rfl⟩) ⟨fun a U g mk q => ⟨q.1, q.2.1, kM_call q.2.2⟩, va_recv hM.1 hPx (ci := 4) (q0 := 0) rfl rfl, fun U hU hW => ⟨rfl, hU, kM_kept hM hS hAN hU hW⟩⟩ rfl rfl hl.1 rfl (lv_room (Nat.le_of_ble_eq_true rfl)) dL_hasDay_4 ⟨Nat.le_of_ble_eq_true rfl, Nat.le_of_ble_eq_true rfl⟩) hS (fun a _ h => Or.inl h) (fun a h => Or.inl h) (fun E ce q9 H1 locs hE hy9 hk9 hS hce hcv hcl => ?_) (fun H1 locs hG1 hE hy9 hk9 hS => ?_)
  · have hG9 : gX dC dI dA q σ H1 := gX_kept hG (fun i _ h => hk9 _ h)
    have hO8 := hO.kept (H1 := H1) (fun i p hp => hk9 _ (hO i p hp).lt)
    rcases hE with ⟨hE, rfl⟩ | ⟨hE, rfl⟩
    · refine vx_catch (own := RL) (name := "java/lang/IndexOutOfBoundsException") hown [] ⟨0, 18, 21, 19⟩ [] hTab (fun z h => absurd h List.not_mem_nil) (by decide) (by decide) (hts _ (List.mem_cons_of_mem _ mw604)) (va_Nw.use rfl hL.2.2.1) hce hcv hcl ?_
      refine lv_astore (lv' := [(4, .ref q9), (0, .ref (q 0)), (1, .int (iZ z1)), (2, .int (iZ nn)), (3, .ref o)]) hx hb dL_hasDay_21 hl (by decide) rfl (fun ls hl => ?_)
      refine lv_iconst (v := iZ 1) hx hb dL_hasDay_23 rfl ?_
      refine W.widen (k := 1) (n := 6) (Nat.le_of_ble_eq_true rfl) (Nat.le_of_ble_eq_true rfl) ?_
      exact W.iret (v := iZ 1) hx hb hr (fun t ht hW => ⟨⟨congrArg (fun z : Int => Outcome.returned (some (Value.int (iZ z)))) (show 1 = ex2 (!inb z1 0 3) (false) from hE.symm), by rw [ht]; exact ⟨gX_cast hG9 (if_neg (by rw [hE]; decide)).symm, sn, sv, fun z => absurd z (by rw [hE]; decide), hO8⟩⟩, hS.F ht⟩) hS.2.2 dL_hasDay_24 hlocks
    · exact absurd hE ex2_no2
  obtain ⟨tb1, tn1, tm1, htn1, hfit1, htm1, hP1⟩ := hG1
  have hPO := hP1.app (hO.kept (H1 := H1) (fun i p hp => hk9 _ (hO i p hp).lt (by match i, hp with | 0, hp => cases hp; exact hno (hO 0 _ rfl).lt | n + 1, hp => cases hp)))
  generalize H1 = H at hPO hS ⊢
  clear hk9 hy9
  refine kz_b2l hx hb dL_hasDay_7 dL_hasDay_10 dL_hasDay_11 dL_hasDay_14 ?_
  refine va_putN (D := (dC, dI)) (ci := 5) (v := .long (lZ (bZ (decide (1 ≤ nn ∧ nn ≤ mlen (leap (σ 0 (z1.toNat))) (σ 1 (z1.toNat))))))) (ty := .long) (C := RX2) (T := TX2) (N := 2) hx hb hts (fun w h => List.mem_cons_of_mem _ (gF_1_in h)) tyX2 tyX2_ok nmX2 hown hM.1 hPO (kXO_D hq ho9) hS 9 rfl rfl 0 (by decide) (va_Nw.use rfl hL.1) (fun _ h9 => h9) rfl (by decide +kernel) rfl rfl (Nat.le_of_ble_eq_true rfl) dL_hasDay_15 (fun H locs hPO hD hS => ?_)
  refine lv_goto (tgt := 25) hx hb dL_hasDay_18 (by decide) ?_
  refine lv_iconst (v := iZ 0) hx hb dL_hasDay_25 rfl ?_
  refine W.widen (k := 1) (n := 6) (Nat.le_of_ble_eq_true rfl) (Nat.le_of_ble_eq_true rfl) ?_
  exact W.iret (v := iZ 0) hx hb hr (fun t ht hW => ⟨⟨congrArg (fun z : Int => Outcome.returned (some (Value.int (iZ z)))) (show 0 = ex2 (!inb z1 0 3) (false) from hE.symm), by rw [ht]; exact ⟨gX_cast ⟨tb1, tn1, tm1, htn1, hfit1, htm1, va_Pl (a := kX q dA (σ) tb1 (nI tn1) tm1) hPO⟩ (if_pos hE).symm, _, _, fun _ => rfl, va_Pr (a := kX q dA (σ) tb1 (nI tn1) tm1) hPO⟩⟩, hS.F ht⟩) hS.2.2 dL_hasDay_26 hlocks

abbrev ww_L_leafOrder : List Cond := .codeWith yL_leafOrder cL_leafOrder 6 (some .int) [(0, 13, 16, 19), (0, 13, 20, 21)] :: gT
set_option maxHeartbeats 4000000 in
set_option maxRecDepth 100000 in
theorem c_L_leafOrder (l : Launch) (hst : l.stackTraces = false) (dC : Nat → ClassId) (dI : Nat → Nat → Nat) (dA : Nat → ClassId) (k : Nat → Nat) (q : Nat → Nat) (σ : Nat → Nat → Int) (H0 : Heap) (hG : gX dC dI dA q σ H0) (hOK : kOK σ) (hq : kQI q k) (o : Nat) (sn : Int) (sv : Value) (hO : va_P (dC, dI) vwCl [(o, .inr (5, [.long (lZ sn), sv]))] H0) (hko : k 0 ≤ o) (ho9 : ∀ i : Nat, i < 9 → q i ≠ o) (z1 : Int) (z2 : Int) (w0 : Int) (rz1 : -2147483648 ≤ z1 ∧ z1 < 2147483648) (rz2 : -2147483648 ≤ z2 ∧ z2 < 2147483648) (rw0 : -2147483648 ≤ w0 ∧ w0 < 2147483648) : Met l yL_leafOrder ww_L_leafOrder ({ frames := 10, cells := 3, slots := 18, locals := 345 }) (va_Pc [.ref (q 0), .int (iZ z1), .int (iZ z2), .int (iZ w0), .ref o] (fun U => U.heap = H0 ∧ kMJ dC dI dA k U ∧ kL U)) (kQ2 (some (.int (iZ (ex2 (!inb z1 0 3 || !inb z2 0 3) (!inb w0 0 2))))) (fun H => gX dC dI dA q (if ex2 (!inb z1 0 3 || !inb z2 0 3) (!inb w0 0 2) = 0 then (σ) else σ) H ∧ gO dC dI o (fun n => ex2 (!inb z1 0 3 || !inb z2 0 3) (!inb w0 0 2) = 0 → n = w32 (ordT (cnt (σ 0 (z1.toNat)) (σ 1 (z1.toNat))) (cnt (σ 0 (z2.toNat)) (σ 1 (z2.toNat))) w0)) H) (kAO q o H0.size)) 3 18 (kAO q o H0.size) := by
  refine k_ofWH (cc := cL_leafOrder) (maxL := 6) (ret := (some .int)) (hh := [(0, 13, 16, 19), (0, 13, 20, 21)]) (by decide) rfl ?_
  intro p e s m args below meth c s₁ B hml hv
  obtain ⟨rfl, hH, hMJ, hL⟩ := hv
  subst hH
  have hM := hMJ.1
  have hAN : ∀ a, kAO q o s.heap.size a → k 0 ≤ a := kAO_N hq hko hM.2.1.1
  have hS : va_S (kAO q o s.heap.size) s.heap s.heap [] := va_S.rf
  have hno : o < s.heap.size → ¬ kA q s.heap.size o := fun h z => z.elim (fun ⟨i, hi, e9⟩ => ho9 i hi e9.symm) (fun y => absurd h (Nat.not_lt.mpr y))
  obtain ⟨tb, tn, tm, htn, hfit, htm, hPx⟩ := id hG
  have hx := B.exec
  have hb := B.bytes
  have hr := B.returns
  have hts := atoms_spec (ws := ww_L_leafOrder) B.pre
  have hown : s.vm.findClass RL = some m.cls := findClass_of_methodNamed B.named
  have hlocks := B.notSynchronized
  have hl := lv_entry ([.ref (q 0), .int (iZ z1), .int (iZ z2), .int (iZ w0), .ref o]) (n := 6) (Nat.le_of_ble_eq_true rfl)
  rw [lg_entry_eq]
  generalize (lg_sl ([.ref (q 0), .int (iZ z1), .int (iZ z2), .int (iZ w0), .ref o]) ++ List.replicate (6 - (lg_sl ([.ref (q 0), .int (iZ z1), .int (iZ z2), .int (iZ w0), .ref o])).length) Slot.unset).toArray = ls at hl ⊢
  have hl : lv_has ls 6 [(0, .ref (q 0)), (1, .int (iZ z1)), (2, .int (iZ z2)), (3, .int (iZ w0)), (4, .ref o)] := hl
  have hTab := vx_table (x := yL_leafOrder) B (hts _ List.mem_cons_self)
  refine lv_aload hx hb dL_leafOrder_0 (lv_at hl 4 rfl) ?_
  refine lv_aload_n hx hb dL_leafOrder_2 rfl (lv_at hl 0 rfl) ?_
  refine lv_iload_n hx hb dL_leafOrder_3 rfl (lv_at hl 1 rfl) ?_
  refine lv_iload_n hx hb dL_leafOrder_4 rfl (lv_at hl 2 rfl) ?_
  refine lv_iload_n hx hb dL_leafOrder_5 rfl (lv_at hl 3 rfl) ?_
  refine kcxc (vx_runV (As := [.int (iZ z1), .int (iZ z2), .int (iZ w0)]) (rest := [.ref o]) ⟨hx, hb, hml, hown, hts⟩ (c_X1_leafOrder l hst dC dI dA k q σ _ hG hOK hq z1 z2 w0 rz1 rz2 rw0) (cwV 3 hts (kg_V mw899 mw570 mw571 mw42 rfl mw572) rfl rfl rfl hdV_X1_leafOrder ⟨Nat.le_of_ble_eq_true rfl, Nat.le_of_ble_eq_true rfl⟩) ⟨fun a U g mk q => ⟨q.1, q.2.1, kM_call q.2.2⟩, va_recv hM.1 hPx (ci := 4) (q0 := 0) rfl rfl, fun U hU hW => ⟨rfl, hU, kM_kept hM hS hAN hU hW⟩⟩ rfl rfl hl.1 rfl (lv_room (Nat.le_of_ble_eq_true rfl)) dL_leafOrder_6 ⟨Nat.le_of_ble_eq_true rfl, Nat.le_of_ble_eq_true rfl⟩) hS (fun a _ h => Or.inl h) (fun a h => Or.inl h) (fun E ce q9 H1 locs hE hy9 hk9 hS hce hcv hcl => ?_) (fun H1 locs hG1 hE hy9 hk9 hS => ?_)
  · have hG9 : gX dC dI dA q σ H1 := gX_kept hG (fun i _ h => hk9 _ h)
    have hO8 := hO.kept (H1 := H1) (fun i p hp => hk9 _ (hO i p hp).lt)
    rcases hE with ⟨hE, rfl⟩ | ⟨hE, rfl⟩
    · refine vx_catch (own := RL) (name := "java/lang/IndexOutOfBoundsException") hown [] ⟨0, 13, 16, 19⟩ [⟨0, 13, 20, 21⟩] hTab (fun z h => absurd h List.not_mem_nil) (by decide) (by decide) (hts _ (List.mem_cons_of_mem _ mw604)) (va_Nw.use rfl hL.2.2.1) hce hcv hcl ?_
      refine lv_astore (lv' := [(5, .ref q9), (0, .ref (q 0)), (1, .int (iZ z1)), (2, .int (iZ z2)), (3, .int (iZ w0)), (4, .ref o)]) hx hb dL_leafOrder_16 hl (by decide) rfl (fun ls hl => ?_)
      refine lv_iconst (v := iZ 1) hx hb dL_leafOrder_18 rfl ?_
      refine W.widen (k := 3) (n := 18) (Nat.le_of_ble_eq_true rfl) (Nat.le_of_ble_eq_true rfl) ?_
      exact W.iret (v := iZ 1) hx hb hr (fun t ht hW => ⟨⟨congrArg (fun z : Int => Outcome.returned (some (Value.int (iZ z)))) (show 1 = ex2 (!inb z1 0 3 || !inb z2 0 3) (!inb w0 0 2) from hE.symm), by rw [ht]; exact ⟨gX_cast hG9 (if_neg (by rw [hE]; decide)).symm, sn, sv, fun z => absurd z (by rw [hE]; decide), hO8⟩⟩, hS.F ht⟩) hS.2.2 dL_leafOrder_19 hlocks
    · refine vx_catch (own := RL) (name := "java/lang/IllegalArgumentException") hown [⟨0, 13, 16, 19⟩] ⟨0, 13, 20, 21⟩ [] hTab (fun z h => by cases List.mem_singleton.mp h; exact Or.inr ⟨by decide, "java/lang/IndexOutOfBoundsException", (hts _ (List.mem_cons_of_mem _ mw604)), hM.2.1.2.2.2.2.2.2.2.2.2.2.2⟩) (by decide) (by decide) (hts _ (List.mem_cons_of_mem _ mw605)) (va_Nw.use rfl hL.2.2.2) hce hcv hcl ?_
      refine lv_astore (lv' := [(5, .ref q9), (0, .ref (q 0)), (1, .int (iZ z1)), (2, .int (iZ z2)), (3, .int (iZ w0)), (4, .ref o)]) hx hb dL_leafOrder_20 hl (by decide) rfl (fun ls hl => ?_)
      refine lv_iconst (v := iZ 2) hx hb dL_leafOrder_22 rfl ?_
      refine W.widen (k := 3) (n := 18) (Nat.le_of_ble_eq_true rfl) (Nat.le_of_ble_eq_true rfl) ?_
      exact W.iret (v := iZ 2) hx hb hr (fun t ht hW => ⟨⟨congrArg (fun z : Int => Outcome.returned (some (Value.int (iZ z)))) (show 2 = ex2 (!inb z1 0 3 || !inb z2 0 3) (!inb w0 0 2) from hE.symm), by rw [ht]; exact ⟨gX_cast hG9 (if_neg (by rw [hE]; decide)).symm, sn, sv, fun z => absurd z (by rw [hE]; decide), hO8⟩⟩, hS.F ht⟩) hS.2.2 dL_leafOrder_23 hlocks
  obtain ⟨tb1, tn1, tm1, htn1, hfit1, htm1, hP1⟩ := hG1
  have hPO := hP1.app (hO.kept (H1 := H1) (fun i p hp => hk9 _ (hO i p hp).lt (by match i, hp with | 0, hp => cases hp; exact hno (hO 0 _ rfl).lt | n + 1, hp => cases hp)))
  generalize H1 = H at hPO hS ⊢
  clear hk9 hy9
  refine kz_w32 ?_
  refine kz_i2l hx hb (w32_rng _) dL_leafOrder_9 ?_
  refine va_putN (D := (dC, dI)) (ci := 5) (v := .long (lZ ((w32 (ordT (cnt (σ 0 (z1.toNat)) (σ 1 (z1.toNat))) (cnt (σ 0 (z2.toNat)) (σ 1 (z2.toNat))) w0))))) (ty := .long) (C := RX2) (T := TX2) (N := 2) hx hb hts (fun w h => List.mem_cons_of_mem _ (gF_1_in h)) tyX2 tyX2_ok nmX2 hown hM.1 hPO (kXO_D hq ho9) hS 9 rfl rfl 0 (by decide) (va_Nw.use rfl hL.1) (fun _ h9 => h9) rfl (by decide +kernel) rfl rfl (Nat.le_of_ble_eq_true rfl) dL_leafOrder_10 (fun H locs hPO hD hS => ?_)
  refine lv_goto (tgt := 24) hx hb dL_leafOrder_13 (by decide) ?_
  refine lv_iconst (v := iZ 0) hx hb dL_leafOrder_24 rfl ?_
  refine W.widen (k := 3) (n := 18) (Nat.le_of_ble_eq_true rfl) (Nat.le_of_ble_eq_true rfl) ?_
  exact W.iret (v := iZ 0) hx hb hr (fun t ht hW => ⟨⟨congrArg (fun z : Int => Outcome.returned (some (Value.int (iZ z)))) (show 0 = ex2 (!inb z1 0 3 || !inb z2 0 3) (!inb w0 0 2) from hE.symm), by rw [ht]; exact ⟨gX_cast ⟨tb1, tn1, tm1, htn1, hfit1, htm1, va_Pl (a := kX q dA (σ) tb1 (nI tn1) tm1) hPO⟩ (if_pos hE).symm, _, _, fun _ => rfl, va_Pr (a := kX q dA (σ) tb1 (nI tn1) tm1) hPO⟩⟩, hS.F ht⟩) hS.2.2 dL_leafOrder_25 hlocks

abbrev ww_L_isLeaf : List Cond := .codeWith yL_isLeaf cL_isLeaf 6 (some .int) [(0, 20, 23, 19), (0, 20, 27, 21)] :: gT
set_option maxHeartbeats 4000000 in
set_option maxRecDepth 100000 in
theorem c_L_isLeaf (l : Launch) (hst : l.stackTraces = false) (dC : Nat → ClassId) (dI : Nat → Nat → Nat) (dA : Nat → ClassId) (k : Nat → Nat) (q : Nat → Nat) (σ : Nat → Nat → Int) (H0 : Heap) (hG : gX dC dI dA q σ H0) (hOK : kOK σ) (hq : kQI q k) (o : Nat) (sn : Int) (sv : Value) (hO : va_P (dC, dI) vwCl [(o, .inr (5, [.long (lZ sn), sv]))] H0) (hko : k 0 ≤ o) (ho9 : ∀ i : Nat, i < 9 → q i ≠ o) (z1 : Int) (w0 : Int) (z2 : Int) (rz1 : -2147483648 ≤ z1 ∧ z1 < 2147483648) (rw0 : -2147483648 ≤ w0 ∧ w0 < 2147483648) (rz2 : -2147483648 ≤ z2 ∧ z2 < 2147483648) : Met l yL_isLeaf ww_L_isLeaf ({ frames := 10, cells := 3, slots := 18, locals := 345 }) (va_Pc [.ref (q 0), .int (iZ z1), .int (iZ w0), .int (iZ z2), .ref o] (fun U => U.heap = H0 ∧ kMJ dC dI dA k U ∧ kL U)) (kQ2 (some (.int (iZ (ex2 (!inb z1 0 3 || !inb z2 0 3) (!inb w0 0 4))))) (fun H => gX dC dI dA q (if ex2 (!inb z1 0 3 || !inb z2 0 3) (!inb w0 0 4) = 0 then (σ) else σ) H ∧ gO dC dI o (fun n => ex2 (!inb z1 0 3 || !inb z2 0 3) (!inb w0 0 4) = 0 → n = bZ (decide (w0 = 0 ∧ σ 0 (z1.toNat) = σ 0 (z2.toNat) ∧ σ 1 (z1.toNat) = σ 1 (z2.toNat)))) H) (kAO q o H0.size)) 3 18 (kAO q o H0.size) := by
  refine k_ofWH (cc := cL_isLeaf) (maxL := 6) (ret := (some .int)) (hh := [(0, 20, 23, 19), (0, 20, 27, 21)]) (by decide) rfl ?_
  intro p e s m args below meth c s₁ B hml hv
  obtain ⟨rfl, hH, hMJ, hL⟩ := hv
  subst hH
  have hM := hMJ.1
  have hAN : ∀ a, kAO q o s.heap.size a → k 0 ≤ a := kAO_N hq hko hM.2.1.1
  have hS : va_S (kAO q o s.heap.size) s.heap s.heap [] := va_S.rf
  have hno : o < s.heap.size → ¬ kA q s.heap.size o := fun h z => z.elim (fun ⟨i, hi, e9⟩ => ho9 i hi e9.symm) (fun y => absurd h (Nat.not_lt.mpr y))
  obtain ⟨tb, tn, tm, htn, hfit, htm, hPx⟩ := id hG
  have hx := B.exec
  have hb := B.bytes
  have hr := B.returns
  have hts := atoms_spec (ws := ww_L_isLeaf) B.pre
  have hown : s.vm.findClass RL = some m.cls := findClass_of_methodNamed B.named
  have hlocks := B.notSynchronized
  have hl := lv_entry ([.ref (q 0), .int (iZ z1), .int (iZ w0), .int (iZ z2), .ref o]) (n := 6) (Nat.le_of_ble_eq_true rfl)
  rw [lg_entry_eq]
  generalize (lg_sl ([.ref (q 0), .int (iZ z1), .int (iZ w0), .int (iZ z2), .ref o]) ++ List.replicate (6 - (lg_sl ([.ref (q 0), .int (iZ z1), .int (iZ w0), .int (iZ z2), .ref o])).length) Slot.unset).toArray = ls at hl ⊢
  have hl : lv_has ls 6 [(0, .ref (q 0)), (1, .int (iZ z1)), (2, .int (iZ w0)), (3, .int (iZ z2)), (4, .ref o)] := hl
  have hTab := vx_table (x := yL_isLeaf) B (hts _ List.mem_cons_self)
  refine lv_aload hx hb dL_isLeaf_0 (lv_at hl 4 rfl) ?_
  refine lv_aload_n hx hb dL_isLeaf_2 rfl (lv_at hl 0 rfl) ?_
  refine lv_iload_n hx hb dL_isLeaf_3 rfl (lv_at hl 1 rfl) ?_
  refine lv_iload_n hx hb dL_isLeaf_4 rfl (lv_at hl 2 rfl) ?_
  refine lv_iload_n hx hb dL_isLeaf_5 rfl (lv_at hl 3 rfl) ?_
  refine kcxc (vx_runV (As := [.int (iZ z1), .int (iZ w0), .int (iZ z2)]) (rest := [.ref o]) ⟨hx, hb, hml, hown, hts⟩ (c_X1_isLeaf l hst dC dI dA k q σ _ hG hOK hq z1 w0 z2 rz1 rw0 rz2) (cwV 3 hts (kg_V mw903 mw904 mw905 mw42 rfl mw906) rfl rfl rfl hdV_X1_isLeaf ⟨Nat.le_of_ble_eq_true rfl, Nat.le_of_ble_eq_true rfl⟩) ⟨fun a U g mk q => ⟨q.1, q.2.1, kM_call q.2.2⟩, va_recv hM.1 hPx (ci := 4) (q0 := 0) rfl rfl, fun U hU hW => ⟨rfl, hU, kM_kept hM hS hAN hU hW⟩⟩ rfl rfl hl.1 rfl (lv_room (Nat.le_of_ble_eq_true rfl)) dL_isLeaf_6 ⟨Nat.le_of_ble_eq_true rfl, Nat.le_of_ble_eq_true rfl⟩) hS (fun a _ h => Or.inl h) (fun a h => Or.inl h) (fun E ce q9 H1 locs hE hy9 hk9 hS hce hcv hcl => ?_) (fun H1 locs hG1 hE hy9 hk9 hS => ?_)
  · have hG9 : gX dC dI dA q σ H1 := gX_kept hG (fun i _ h => hk9 _ h)
    have hO8 := hO.kept (H1 := H1) (fun i p hp => hk9 _ (hO i p hp).lt)
    rcases hE with ⟨hE, rfl⟩ | ⟨hE, rfl⟩
    · refine vx_catch (own := RL) (name := "java/lang/IndexOutOfBoundsException") hown [] ⟨0, 20, 23, 19⟩ [⟨0, 20, 27, 21⟩] hTab (fun z h => absurd h List.not_mem_nil) (by decide) (by decide) (hts _ (List.mem_cons_of_mem _ mw604)) (va_Nw.use rfl hL.2.2.1) hce hcv hcl ?_
      refine lv_astore (lv' := [(5, .ref q9), (0, .ref (q 0)), (1, .int (iZ z1)), (2, .int (iZ w0)), (3, .int (iZ z2)), (4, .ref o)]) hx hb dL_isLeaf_23 hl (by decide) rfl (fun ls hl => ?_)
      refine lv_iconst (v := iZ 1) hx hb dL_isLeaf_25 rfl ?_
      refine W.widen (k := 3) (n := 18) (Nat.le_of_ble_eq_true rfl) (Nat.le_of_ble_eq_true rfl) ?_
      exact W.iret (v := iZ 1) hx hb hr (fun t ht hW => ⟨⟨congrArg (fun z : Int => Outcome.returned (some (Value.int (iZ z)))) (show 1 = ex2 (!inb z1 0 3 || !inb z2 0 3) (!inb w0 0 4) from hE.symm), by rw [ht]; exact ⟨gX_cast hG9 (if_neg (by rw [hE]; decide)).symm, sn, sv, fun z => absurd z (by rw [hE]; decide), hO8⟩⟩, hS.F ht⟩) hS.2.2 dL_isLeaf_26 hlocks
    · refine vx_catch (own := RL) (name := "java/lang/IllegalArgumentException") hown [⟨0, 20, 23, 19⟩] ⟨0, 20, 27, 21⟩ [] hTab (fun z h => by cases List.mem_singleton.mp h; exact Or.inr ⟨by decide, "java/lang/IndexOutOfBoundsException", (hts _ (List.mem_cons_of_mem _ mw604)), hM.2.1.2.2.2.2.2.2.2.2.2.2.2⟩) (by decide) (by decide) (hts _ (List.mem_cons_of_mem _ mw605)) (va_Nw.use rfl hL.2.2.2) hce hcv hcl ?_
      refine lv_astore (lv' := [(5, .ref q9), (0, .ref (q 0)), (1, .int (iZ z1)), (2, .int (iZ w0)), (3, .int (iZ z2)), (4, .ref o)]) hx hb dL_isLeaf_27 hl (by decide) rfl (fun ls hl => ?_)
      refine lv_iconst (v := iZ 2) hx hb dL_isLeaf_29 rfl ?_
      refine W.widen (k := 3) (n := 18) (Nat.le_of_ble_eq_true rfl) (Nat.le_of_ble_eq_true rfl) ?_
      exact W.iret (v := iZ 2) hx hb hr (fun t ht hW => ⟨⟨congrArg (fun z : Int => Outcome.returned (some (Value.int (iZ z)))) (show 2 = ex2 (!inb z1 0 3 || !inb z2 0 3) (!inb w0 0 4) from hE.symm), by rw [ht]; exact ⟨gX_cast hG9 (if_neg (by rw [hE]; decide)).symm, sn, sv, fun z => absurd z (by rw [hE]; decide), hO8⟩⟩, hS.F ht⟩) hS.2.2 dL_isLeaf_30 hlocks
  obtain ⟨tb1, tn1, tm1, htn1, hfit1, htm1, hP1⟩ := hG1
  have hPO := hP1.app (hO.kept (H1 := H1) (fun i p hp => hk9 _ (hO i p hp).lt (by match i, hp with | 0, hp => cases hp; exact hno (hO 0 _ rfl).lt | n + 1, hp => cases hp)))
  generalize H1 = H at hPO hS ⊢
  clear hk9 hy9
  refine kz_b2l hx hb dL_isLeaf_9 dL_isLeaf_12 dL_isLeaf_13 dL_isLeaf_16 ?_
  refine va_putN (D := (dC, dI)) (ci := 5) (v := .long (lZ (bZ (decide (w0 = 0 ∧ σ 0 (z1.toNat) = σ 0 (z2.toNat) ∧ σ 1 (z1.toNat) = σ 1 (z2.toNat)))))) (ty := .long) (C := RX2) (T := TX2) (N := 2) hx hb hts (fun w h => List.mem_cons_of_mem _ (gF_1_in h)) tyX2 tyX2_ok nmX2 hown hM.1 hPO (kXO_D hq ho9) hS 9 rfl rfl 0 (by decide) (va_Nw.use rfl hL.1) (fun _ h9 => h9) rfl (by decide +kernel) rfl rfl (Nat.le_of_ble_eq_true rfl) dL_isLeaf_17 (fun H locs hPO hD hS => ?_)
  refine lv_goto (tgt := 31) hx hb dL_isLeaf_20 (by decide) ?_
  refine lv_iconst (v := iZ 0) hx hb dL_isLeaf_31 rfl ?_
  refine W.widen (k := 3) (n := 18) (Nat.le_of_ble_eq_true rfl) (Nat.le_of_ble_eq_true rfl) ?_
  exact W.iret (v := iZ 0) hx hb hr (fun t ht hW => ⟨⟨congrArg (fun z : Int => Outcome.returned (some (Value.int (iZ z)))) (show 0 = ex2 (!inb z1 0 3 || !inb z2 0 3) (!inb w0 0 4) from hE.symm), by rw [ht]; exact ⟨gX_cast ⟨tb1, tn1, tm1, htn1, hfit1, htm1, va_Pl (a := kX q dA (σ) tb1 (nI tn1) tm1) hPO⟩ (if_pos hE).symm, _, _, fun _ => rfl, va_Pr (a := kX q dA (σ) tb1 (nI tn1) tm1) hPO⟩⟩, hS.F ht⟩) hS.2.2 dL_isLeaf_32 hlocks

abbrev ww_L_leafTo : List Cond := .codeWith yL_leafTo cL_leafTo 7 (some .int) [(0, 14, 17, 19), (0, 14, 21, 21)] :: gT
set_option maxHeartbeats 4000000 in
set_option maxRecDepth 100000 in
theorem c_L_leafTo (l : Launch) (hst : l.stackTraces = false) (dC : Nat → ClassId) (dI : Nat → Nat → Nat) (dA : Nat → ClassId) (k : Nat → Nat) (q : Nat → Nat) (σ : Nat → Nat → Int) (H0 : Heap) (hG : gX dC dI dA q σ H0) (hOK : kOK σ) (hq : kQI q k) (o : Nat) (sn : Int) (sv : Value) (hO : va_P (dC, dI) vwCl [(o, .inr (5, [.long (lZ sn), sv]))] H0) (hko : k 0 ≤ o) (ho9 : ∀ i : Nat, i < 9 → q i ≠ o) (z1 : Int) (z2 : Int) (uu : Int) (bb : Bool) (rz1 : -2147483648 ≤ z1 ∧ z1 < 2147483648) (rz2 : -2147483648 ≤ z2 ∧ z2 < 2147483648) (ruu : -2147483648 ≤ uu ∧ uu < 2147483648) : Met l yL_leafTo ww_L_leafTo ({ frames := 10, cells := 5, slots := 38, locals := 346 }) (va_Pc [.ref (q 0), .int (iZ z1), .int (iZ z2), .int (iZ uu), .int (iZ (bZ (bb))), .ref o] (fun U => U.heap = H0 ∧ kMJ dC dI dA k U ∧ kL U)) (kQ2 (some (.int (iZ (ex2 (!inb z1 0 3 || !inb z2 0 3) (!inb uu 0 4))))) (fun H => gX dC dI dA q (if ex2 (!inb z1 0 3 || !inb z2 0 3) (!inb uu 0 4) = 0 then σ else σ) H ∧ gOS dC dI dA o H0.size (ex2 (!inb z1 0 3 || !inb z2 0 3) (!inb uu 0 4) = 0) (tq (cnt (σ 0 z2.toNat) (σ 1 z2.toNat) - cnt (σ 0 z1.toNat) (σ 1 z1.toNat)) (usize uu)) H) (kAO q o H0.size)) 5 38 (kAO q o H0.size) := by
  refine k_ofWH (cc := cL_leafTo) (maxL := 7) (ret := (some .int)) (hh := [(0, 14, 17, 19), (0, 14, 21, 21)]) (by decide) rfl ?_
  intro p e s m args below meth c s₁ B hml hv
  obtain ⟨rfl, hH, hMJ, hL⟩ := hv
  subst hH
  have hM := hMJ.1
  have hAN : ∀ a, kAO q o s.heap.size a → k 0 ≤ a := kAO_N hq hko hM.2.1.1
  have hS : va_S (kAO q o s.heap.size) s.heap s.heap [] := va_S.rf
  have hno : o < s.heap.size → ¬ kA q s.heap.size o := fun h z => z.elim (fun ⟨i, hi, e9⟩ => ho9 i hi e9.symm) (fun y => absurd h (Nat.not_lt.mpr y))
  obtain ⟨tb, tn, tm, htn, hfit, htm, hPx⟩ := id hG
  have hx := B.exec
  have hb := B.bytes
  have hr := B.returns
  have hts := atoms_spec (ws := ww_L_leafTo) B.pre
  have hown : s.vm.findClass RL = some m.cls := findClass_of_methodNamed B.named
  have hlocks := B.notSynchronized
  have hl := lv_entry ([.ref (q 0), .int (iZ z1), .int (iZ z2), .int (iZ uu), .int (iZ (bZ (bb))), .ref o]) (n := 7) (Nat.le_of_ble_eq_true rfl)
  rw [lg_entry_eq]
  generalize (lg_sl ([.ref (q 0), .int (iZ z1), .int (iZ z2), .int (iZ uu), .int (iZ (bZ (bb))), .ref o]) ++ List.replicate (7 - (lg_sl ([.ref (q 0), .int (iZ z1), .int (iZ z2), .int (iZ uu), .int (iZ (bZ (bb))), .ref o])).length) Slot.unset).toArray = ls at hl ⊢
  have hl : lv_has ls 7 [(0, .ref (q 0)), (1, .int (iZ z1)), (2, .int (iZ z2)), (3, .int (iZ uu)), (4, .int (iZ (bZ (bb)))), (5, .ref o)] := hl
  have hTab := vx_table (x := yL_leafTo) B (hts _ List.mem_cons_self)
  refine lv_aload hx hb dL_leafTo_0 (lv_at hl 5 rfl) ?_
  refine lv_aload_n hx hb dL_leafTo_2 rfl (lv_at hl 0 rfl) ?_
  refine lv_iload_n hx hb dL_leafTo_3 rfl (lv_at hl 1 rfl) ?_
  refine lv_iload_n hx hb dL_leafTo_4 rfl (lv_at hl 2 rfl) ?_
  refine lv_iload_n hx hb dL_leafTo_5 rfl (lv_at hl 3 rfl) ?_
  refine lv_iload hx hb dL_leafTo_6 (lv_at hl 4 rfl) ?_
  refine kcxr (vx_runV (As := [.int (iZ z1), .int (iZ z2), .int (iZ uu), .int (iZ (bZ (bb)))]) (rest := [.ref o]) ⟨hx, hb, hml, hown, hts⟩ (c_X1_leafTo l hst dC dI dA k q σ _ hG hOK hq z1 z2 uu bb rz1 rz2 ruu) (cwV 4 hts (kg_V mw910 mw911 mw912 mw42 rfl mw913) rfl rfl rfl hdV_X1_leafTo ⟨Nat.le_of_ble_eq_true rfl, Nat.le_of_ble_eq_true rfl⟩) ⟨fun a U g mk q => ⟨q.1, q.2.1, kMJ_call q.2.2⟩, va_recv hM.1 hPx (ci := 4) (q0 := 0) rfl rfl, fun U hU hW => ⟨rfl, hU, kMJ_kept hMJ hS hAN hU hW⟩⟩ rfl rfl hl.1 rfl (lv_room (Nat.le_of_ble_eq_true rfl)) dL_leafTo_8 ⟨Nat.le_of_ble_eq_true rfl, Nat.le_of_ble_eq_true rfl⟩) hS (fun a _ h => Or.inl h) (fun a h => Or.inl h) (fun E ce q9 H1 locs hE hy9 hk9 hS hce hcv hcl => ?_) (fun x9 H1 locs hG1 hE hy9 hk9 hS => ?_)
  · have hG9 : gX dC dI dA q σ H1 := gX_kept hG (fun i _ h => hk9 _ h)
    have hO8 := hO.kept (H1 := H1) (fun i p hp => hk9 _ (hO i p hp).lt)
    rcases hE with ⟨hE, rfl⟩ | ⟨hE, rfl⟩
    · refine vx_catch (own := RL) (name := "java/lang/IndexOutOfBoundsException") hown [] ⟨0, 14, 17, 19⟩ [⟨0, 14, 21, 21⟩] hTab (fun z h => absurd h List.not_mem_nil) (by decide) (by decide) (hts _ (List.mem_cons_of_mem _ mw604)) (va_Nw.use rfl hL.2.2.1) hce hcv hcl ?_
      refine lv_astore (lv' := [(6, .ref q9), (0, .ref (q 0)), (1, .int (iZ z1)), (2, .int (iZ z2)), (3, .int (iZ uu)), (4, .int (iZ (bZ (bb)))), (5, .ref o)]) hx hb dL_leafTo_17 hl (by decide) rfl (fun ls hl => ?_)
      refine lv_iconst (v := iZ 1) hx hb dL_leafTo_19 rfl ?_
      refine W.widen (k := 5) (n := 38) (Nat.le_of_ble_eq_true rfl) (Nat.le_of_ble_eq_true rfl) ?_
      exact W.iret (v := iZ 1) hx hb hr (fun t ht hW => ⟨⟨congrArg (fun z : Int => Outcome.returned (some (Value.int (iZ z)))) (show 1 = ex2 (!inb z1 0 3 || !inb z2 0 3) (!inb uu 0 4) from hE.symm), by rw [ht]; exact ⟨gX_cast hG9 (if_neg (by rw [hE]; decide)).symm, sn, sv, hO8, fun z => absurd z (by rw [hE]; decide)⟩⟩, hS.F ht⟩) hS.2.2 dL_leafTo_20 hlocks
    · refine vx_catch (own := RL) (name := "java/lang/IllegalArgumentException") hown [⟨0, 14, 17, 19⟩] ⟨0, 14, 21, 21⟩ [] hTab (fun z h => by cases List.mem_singleton.mp h; exact Or.inr ⟨by decide, "java/lang/IndexOutOfBoundsException", (hts _ (List.mem_cons_of_mem _ mw604)), hM.2.1.2.2.2.2.2.2.2.2.2.2.2⟩) (by decide) (by decide) (hts _ (List.mem_cons_of_mem _ mw605)) (va_Nw.use rfl hL.2.2.2) hce hcv hcl ?_
      refine lv_astore (lv' := [(6, .ref q9), (0, .ref (q 0)), (1, .int (iZ z1)), (2, .int (iZ z2)), (3, .int (iZ uu)), (4, .int (iZ (bZ (bb)))), (5, .ref o)]) hx hb dL_leafTo_21 hl (by decide) rfl (fun ls hl => ?_)
      refine lv_iconst (v := iZ 2) hx hb dL_leafTo_23 rfl ?_
      refine W.widen (k := 5) (n := 38) (Nat.le_of_ble_eq_true rfl) (Nat.le_of_ble_eq_true rfl) ?_
      exact W.iret (v := iZ 2) hx hb hr (fun t ht hW => ⟨⟨congrArg (fun z : Int => Outcome.returned (some (Value.int (iZ z)))) (show 2 = ex2 (!inb z1 0 3 || !inb z2 0 3) (!inb uu 0 4) from hE.symm), by rw [ht]; exact ⟨gX_cast hG9 (if_neg (by rw [hE]; decide)).symm, sn, sv, hO8, fun z => absurd z (by rw [hE]; decide)⟩⟩, hS.F ht⟩) hS.2.2 dL_leafTo_24 hlocks
  obtain ⟨⟨tb1, tn1, tm1, htn1, hfit1, htm1, hP1⟩, w9, g9, ⟨hx9, hw9, hxw⟩, ht9, hT9⟩ := hG1
  have hPO := (hP1.app (hO.kept (H1 := H1) (fun i p hp => hk9 _ (hO i p hp).lt (by match i, hp with | 0, hp => cases hp; exact hno (hO 0 _ rfl).lt | n + 1, hp => cases hp)))).app hT9
  generalize H1 = H at hPO hS ⊢
  clear hk9 hy9
  refine va_putN (D := (dC, dI)) (ci := 5) (v := .ref x9) (ty := .object "java/lang/String") (C := RX2) (T := TX2) (N := 2) hx hb hts (fun w h => List.mem_cons_of_mem _ (gF_1_in h)) tyX2 tyX2_ok nmX2 hown hM.1 hPO (kXOS_D hq ho9 (gX_ltT hG) (hO 0 _ rfl).lt hx9 hw9 hxw) hS 9 rfl rfl 1 (by decide) (va_Nw.use rfl hL.2.1) (fun _ h9 => h9) rfl (by decide +kernel) rfl rfl (Nat.le_of_ble_eq_true rfl) dL_leafTo_11 (fun H locs hPO hD hS => ?_)
  have hPO : va_P (dC, dI) vwCl (kX q dA σ tb1 (nI tn1) tm1 ++ [(o, .inr (5, [.long (lZ sn), .ref x9]))] ++ kS x9 w9 dA g9 (TL (tq (cnt (σ 0 z2.toNat) (σ 1 z2.toNat) - cnt (σ 0 z1.toNat) (σ 1 z1.toNat)) (usize uu)))) _ := hPO
  refine lv_goto (tgt := 25) hx hb dL_leafTo_14 (by decide) ?_
  refine lv_iconst (v := iZ 0) hx hb dL_leafTo_25 rfl ?_
  refine W.widen (k := 5) (n := 38) (Nat.le_of_ble_eq_true rfl) (Nat.le_of_ble_eq_true rfl) ?_
  exact W.iret (v := iZ 0) hx hb hr (fun t ht hW => ⟨⟨congrArg (fun z : Int => Outcome.returned (some (Value.int (iZ z)))) (show 0 = ex2 (!inb z1 0 3 || !inb z2 0 3) (!inb uu 0 4) from hE.symm), by rw [ht]; exact ⟨gX_cast ⟨tb1, tn1, tm1, htn1, hfit1, htm1, va_Pl (a := kX q dA σ tb1 (nI tn1) tm1) (va_Pl hPO)⟩ (if_pos hE).symm, sn, .ref x9, va_Pr (a := kX q dA σ tb1 (nI tn1) tm1) (va_Pl hPO), fun _ => ⟨x9, rfl, w9, g9, ⟨hx9, hw9, hxw⟩, ht9, va_Pr hPO⟩⟩⟩, hS.F ht⟩) hS.2.2 dL_leafTo_26 hlocks

abbrev ww_L_ofYear : List Cond := .codeWith yL_ofYear cL_ofYear 5 (some .int) [(0, 11, 14, 19), (0, 11, 18, 21)] :: gT
set_option maxHeartbeats 4000000 in
set_option maxRecDepth 100000 in
theorem c_L_ofYear (l : Launch) (hst : l.stackTraces = false) (dC : Nat → ClassId) (dI : Nat → Nat → Nat) (dA : Nat → ClassId) (k : Nat → Nat) (q : Nat → Nat) (σ : Nat → Nat → Int) (H0 : Heap) (hG : gX dC dI dA q σ H0) (hOK : kOK σ) (hq : kQI q k) (o : Nat) (sn : Int) (sv : Value) (hO : va_P (dC, dI) vwCl [(o, .inr (5, [.long (lZ sn), sv]))] H0) (hko : k 0 ≤ o) (ho9 : ∀ i : Nat, i < 9 → q i ≠ o) (z1 : Int) (w0 : Int) (rz1 : -2147483648 ≤ z1 ∧ z1 < 2147483648) (rw0 : -2147483648 ≤ w0 ∧ w0 < 2147483648) : Met l yL_ofYear ww_L_ofYear ({ frames := 10, cells := 2, slots := 12, locals := 345 }) (va_Pc [.ref (q 0), .int (iZ z1), .int (iZ w0), .ref o] (fun U => U.heap = H0 ∧ kMJ dC dI dA k U ∧ kL U)) (kQ2 (some (.int (iZ (ex2 (!inb z1 0 3) (!inb w0 0 4))))) (fun H => gX dC dI dA q (if ex2 (!inb z1 0 3) (!inb w0 0 4) = 0 then (σ) else σ) H ∧ gO dC dI o (fun n => ex2 (!inb z1 0 3) (!inb w0 0 4) = 0 → n = w32 (ofY σ (z1.toNat) w0)) H) (kAO q o H0.size)) 2 12 (kAO q o H0.size) := by
  refine k_ofWH (cc := cL_ofYear) (maxL := 5) (ret := (some .int)) (hh := [(0, 11, 14, 19), (0, 11, 18, 21)]) (by decide) rfl ?_
  intro p e s m args below meth c s₁ B hml hv
  obtain ⟨rfl, hH, hMJ, hL⟩ := hv
  subst hH
  have hM := hMJ.1
  have hAN : ∀ a, kAO q o s.heap.size a → k 0 ≤ a := kAO_N hq hko hM.2.1.1
  have hS : va_S (kAO q o s.heap.size) s.heap s.heap [] := va_S.rf
  have hno : o < s.heap.size → ¬ kA q s.heap.size o := fun h z => z.elim (fun ⟨i, hi, e9⟩ => ho9 i hi e9.symm) (fun y => absurd h (Nat.not_lt.mpr y))
  obtain ⟨tb, tn, tm, htn, hfit, htm, hPx⟩ := id hG
  have hx := B.exec
  have hb := B.bytes
  have hr := B.returns
  have hts := atoms_spec (ws := ww_L_ofYear) B.pre
  have hown : s.vm.findClass RL = some m.cls := findClass_of_methodNamed B.named
  have hlocks := B.notSynchronized
  have hl := lv_entry ([.ref (q 0), .int (iZ z1), .int (iZ w0), .ref o]) (n := 5) (Nat.le_of_ble_eq_true rfl)
  rw [lg_entry_eq]
  generalize (lg_sl ([.ref (q 0), .int (iZ z1), .int (iZ w0), .ref o]) ++ List.replicate (5 - (lg_sl ([.ref (q 0), .int (iZ z1), .int (iZ w0), .ref o])).length) Slot.unset).toArray = ls at hl ⊢
  have hl : lv_has ls 5 [(0, .ref (q 0)), (1, .int (iZ z1)), (2, .int (iZ w0)), (3, .ref o)] := hl
  have hTab := vx_table (x := yL_ofYear) B (hts _ List.mem_cons_self)
  refine lv_aload_n hx hb dL_ofYear_0 rfl (lv_at hl 3 rfl) ?_
  refine lv_aload_n hx hb dL_ofYear_1 rfl (lv_at hl 0 rfl) ?_
  refine lv_iload_n hx hb dL_ofYear_2 rfl (lv_at hl 1 rfl) ?_
  refine lv_iload_n hx hb dL_ofYear_3 rfl (lv_at hl 2 rfl) ?_
  refine kcxc (vx_runV (As := [.int (iZ z1), .int (iZ w0)]) (rest := [.ref o]) ⟨hx, hb, hml, hown, hts⟩ (c_X1_ofYear l hst dC dI dA k q σ _ hG hOK hq z1 w0 rz1 rw0) (cwV 2 hts (kg_V mw917 mw531 mw532 mw42 rfl mw533) rfl rfl rfl hdV_X1_ofYear ⟨Nat.le_of_ble_eq_true rfl, Nat.le_of_ble_eq_true rfl⟩) ⟨fun a U g mk q => ⟨q.1, q.2.1, kM_call q.2.2⟩, va_recv hM.1 hPx (ci := 4) (q0 := 0) rfl rfl, fun U hU hW => ⟨rfl, hU, kM_kept hM hS hAN hU hW⟩⟩ rfl rfl hl.1 rfl (lv_room (Nat.le_of_ble_eq_true rfl)) dL_ofYear_4 ⟨Nat.le_of_ble_eq_true rfl, Nat.le_of_ble_eq_true rfl⟩) hS (fun a _ h => Or.inl h) (fun a h => Or.inl h) (fun E ce q9 H1 locs hE hy9 hk9 hS hce hcv hcl => ?_) (fun H1 locs hG1 hE hy9 hk9 hS => ?_)
  · have hG9 : gX dC dI dA q σ H1 := gX_kept hG (fun i _ h => hk9 _ h)
    have hO8 := hO.kept (H1 := H1) (fun i p hp => hk9 _ (hO i p hp).lt)
    rcases hE with ⟨hE, rfl⟩ | ⟨hE, rfl⟩
    · refine vx_catch (own := RL) (name := "java/lang/IndexOutOfBoundsException") hown [] ⟨0, 11, 14, 19⟩ [⟨0, 11, 18, 21⟩] hTab (fun z h => absurd h List.not_mem_nil) (by decide) (by decide) (hts _ (List.mem_cons_of_mem _ mw604)) (va_Nw.use rfl hL.2.2.1) hce hcv hcl ?_
      refine lv_astore (lv' := [(4, .ref q9), (0, .ref (q 0)), (1, .int (iZ z1)), (2, .int (iZ w0)), (3, .ref o)]) hx hb dL_ofYear_14 hl (by decide) rfl (fun ls hl => ?_)
      refine lv_iconst (v := iZ 1) hx hb dL_ofYear_16 rfl ?_
      refine W.widen (k := 2) (n := 12) (Nat.le_of_ble_eq_true rfl) (Nat.le_of_ble_eq_true rfl) ?_
      exact W.iret (v := iZ 1) hx hb hr (fun t ht hW => ⟨⟨congrArg (fun z : Int => Outcome.returned (some (Value.int (iZ z)))) (show 1 = ex2 (!inb z1 0 3) (!inb w0 0 4) from hE.symm), by rw [ht]; exact ⟨gX_cast hG9 (if_neg (by rw [hE]; decide)).symm, sn, sv, fun z => absurd z (by rw [hE]; decide), hO8⟩⟩, hS.F ht⟩) hS.2.2 dL_ofYear_17 hlocks
    · refine vx_catch (own := RL) (name := "java/lang/IllegalArgumentException") hown [⟨0, 11, 14, 19⟩] ⟨0, 11, 18, 21⟩ [] hTab (fun z h => by cases List.mem_singleton.mp h; exact Or.inr ⟨by decide, "java/lang/IndexOutOfBoundsException", (hts _ (List.mem_cons_of_mem _ mw604)), hM.2.1.2.2.2.2.2.2.2.2.2.2.2⟩) (by decide) (by decide) (hts _ (List.mem_cons_of_mem _ mw605)) (va_Nw.use rfl hL.2.2.2) hce hcv hcl ?_
      refine lv_astore (lv' := [(4, .ref q9), (0, .ref (q 0)), (1, .int (iZ z1)), (2, .int (iZ w0)), (3, .ref o)]) hx hb dL_ofYear_18 hl (by decide) rfl (fun ls hl => ?_)
      refine lv_iconst (v := iZ 2) hx hb dL_ofYear_20 rfl ?_
      refine W.widen (k := 2) (n := 12) (Nat.le_of_ble_eq_true rfl) (Nat.le_of_ble_eq_true rfl) ?_
      exact W.iret (v := iZ 2) hx hb hr (fun t ht hW => ⟨⟨congrArg (fun z : Int => Outcome.returned (some (Value.int (iZ z)))) (show 2 = ex2 (!inb z1 0 3) (!inb w0 0 4) from hE.symm), by rw [ht]; exact ⟨gX_cast hG9 (if_neg (by rw [hE]; decide)).symm, sn, sv, fun z => absurd z (by rw [hE]; decide), hO8⟩⟩, hS.F ht⟩) hS.2.2 dL_ofYear_21 hlocks
  obtain ⟨tb1, tn1, tm1, htn1, hfit1, htm1, hP1⟩ := hG1
  have hPO := hP1.app (hO.kept (H1 := H1) (fun i p hp => hk9 _ (hO i p hp).lt (by match i, hp with | 0, hp => cases hp; exact hno (hO 0 _ rfl).lt | n + 1, hp => cases hp)))
  generalize H1 = H at hPO hS ⊢
  clear hk9 hy9
  refine kz_w32 ?_
  refine kz_i2l hx hb (w32_rng _) dL_ofYear_7 ?_
  refine va_putN (D := (dC, dI)) (ci := 5) (v := .long (lZ ((w32 (ofY σ (z1.toNat) w0))))) (ty := .long) (C := RX2) (T := TX2) (N := 2) hx hb hts (fun w h => List.mem_cons_of_mem _ (gF_1_in h)) tyX2 tyX2_ok nmX2 hown hM.1 hPO (kXO_D hq ho9) hS 9 rfl rfl 0 (by decide) (va_Nw.use rfl hL.1) (fun _ h9 => h9) rfl (by decide +kernel) rfl rfl (Nat.le_of_ble_eq_true rfl) dL_ofYear_8 (fun H locs hPO hD hS => ?_)
  refine lv_goto (tgt := 22) hx hb dL_ofYear_11 (by decide) ?_
  refine lv_iconst (v := iZ 0) hx hb dL_ofYear_22 rfl ?_
  refine W.widen (k := 2) (n := 12) (Nat.le_of_ble_eq_true rfl) (Nat.le_of_ble_eq_true rfl) ?_
  exact W.iret (v := iZ 0) hx hb hr (fun t ht hW => ⟨⟨congrArg (fun z : Int => Outcome.returned (some (Value.int (iZ z)))) (show 0 = ex2 (!inb z1 0 3) (!inb w0 0 4) from hE.symm), by rw [ht]; exact ⟨gX_cast ⟨tb1, tn1, tm1, htn1, hfit1, htm1, va_Pl (a := kX q dA (σ) tb1 (nI tn1) tm1) hPO⟩ (if_pos hE).symm, _, _, fun _ => rfl, va_Pr (a := kX q dA (σ) tb1 (nI tn1) tm1) hPO⟩⟩, hS.F ht⟩) hS.2.2 dL_ofYear_23 hlocks

abbrev ww_L_hasFeast : List Cond := .codeWith yL_hasFeast cL_hasFeast 6 (some .int) [(0, 20, 23, 19)] :: gT
set_option maxHeartbeats 4000000 in
set_option maxRecDepth 100000 in
theorem c_L_hasFeast (l : Launch) (hst : l.stackTraces = false) (dC : Nat → ClassId) (dI : Nat → Nat → Nat) (dA : Nat → ClassId) (k : Nat → Nat) (q : Nat → Nat) (σ : Nat → Nat → Int) (H0 : Heap) (hG : gX dC dI dA q σ H0) (hOK : kOK σ) (hq : kQI q k) (o : Nat) (sn : Int) (sv : Value) (hO : va_P (dC, dI) vwCl [(o, .inr (5, [.long (lZ sn), sv]))] H0) (hko : k 0 ≤ o) (ho9 : ∀ i : Nat, i < 9 → q i ≠ o) (z1 : Int) (z2 : Int) (bb : Bool) (rz1 : -2147483648 ≤ z1 ∧ z1 < 2147483648) (rz2 : -2147483648 ≤ z2 ∧ z2 < 2147483648) : Met l yL_hasFeast ww_L_hasFeast ({ frames := 10, cells := 2, slots := 12, locals := 343 }) (va_Pc [.ref (q 0), .int (iZ z1), .int (iZ z2), .int (iZ (bZ (bb))), .ref o] (fun U => U.heap = H0 ∧ kMJ dC dI dA k U ∧ kL U)) (kQ2 (some (.int (iZ (ex2 (!inb z1 0 3 || !inb z2 0 3) (false))))) (fun H => gX dC dI dA q (if ex2 (!inb z1 0 3 || !inb z2 0 3) (false) = 0 then (σ) else σ) H ∧ gO dC dI o (fun n => ex2 (!inb z1 0 3 || !inb z2 0 3) (false) = 0 → n = bZ ((!bb && inYr σ (z2.toNat) (σ 2 (z1.toNat))))) H) (kAO q o H0.size)) 2 12 (kAO q o H0.size) := by
  refine k_ofWH (cc := cL_hasFeast) (maxL := 6) (ret := (some .int)) (hh := [(0, 20, 23, 19)]) (by decide) rfl ?_
  intro p e s m args below meth c s₁ B hml hv
  obtain ⟨rfl, hH, hMJ, hL⟩ := hv
  subst hH
  have hM := hMJ.1
  have hAN : ∀ a, kAO q o s.heap.size a → k 0 ≤ a := kAO_N hq hko hM.2.1.1
  have hS : va_S (kAO q o s.heap.size) s.heap s.heap [] := va_S.rf
  have hno : o < s.heap.size → ¬ kA q s.heap.size o := fun h z => z.elim (fun ⟨i, hi, e9⟩ => ho9 i hi e9.symm) (fun y => absurd h (Nat.not_lt.mpr y))
  obtain ⟨tb, tn, tm, htn, hfit, htm, hPx⟩ := id hG
  have hx := B.exec
  have hb := B.bytes
  have hr := B.returns
  have hts := atoms_spec (ws := ww_L_hasFeast) B.pre
  have hown : s.vm.findClass RL = some m.cls := findClass_of_methodNamed B.named
  have hlocks := B.notSynchronized
  have hl := lv_entry ([.ref (q 0), .int (iZ z1), .int (iZ z2), .int (iZ (bZ (bb))), .ref o]) (n := 6) (Nat.le_of_ble_eq_true rfl)
  rw [lg_entry_eq]
  generalize (lg_sl ([.ref (q 0), .int (iZ z1), .int (iZ z2), .int (iZ (bZ (bb))), .ref o]) ++ List.replicate (6 - (lg_sl ([.ref (q 0), .int (iZ z1), .int (iZ z2), .int (iZ (bZ (bb))), .ref o])).length) Slot.unset).toArray = ls at hl ⊢
  have hl : lv_has ls 6 [(0, .ref (q 0)), (1, .int (iZ z1)), (2, .int (iZ z2)), (3, .int (iZ (bZ (bb)))), (4, .ref o)] := hl
  have hTab := vx_table (x := yL_hasFeast) B (hts _ List.mem_cons_self)
  refine lv_aload hx hb dL_hasFeast_0 (lv_at hl 4 rfl) ?_
  refine lv_aload_n hx hb dL_hasFeast_2 rfl (lv_at hl 0 rfl) ?_
  refine lv_iload_n hx hb dL_hasFeast_3 rfl (lv_at hl 1 rfl) ?_
  refine lv_iload_n hx hb dL_hasFeast_4 rfl (lv_at hl 2 rfl) ?_
  refine lv_iload_n hx hb dL_hasFeast_5 rfl (lv_at hl 3 rfl) ?_
  refine kcxc (vx_runV (As := [.int (iZ z1), .int (iZ z2), .int (iZ (bZ (bb)))]) (rest := [.ref o]) ⟨hx, hb, hml, hown, hts⟩ (c_X1_hasFeast l hst dC dI dA k q σ _ hG hOK hq z1 z2 bb rz1 rz2) (cwV 3 hts (kg_V mw921 mw922 mw923 mw42 rfl mw924) rfl rfl rfl hdV_X1_hasFeast ⟨Nat.le_of_ble_eq_true rfl, Nat.le_of_ble_eq_true rfl⟩) ⟨fun a U g mk q => ⟨q.1, q.2.1, kM_call q.2.2⟩, va_recv hM.1 hPx (ci := 4) (q0 := 0) rfl rfl, fun U hU hW => ⟨rfl, hU, kM_kept hM hS hAN hU hW⟩⟩ rfl rfl hl.1 rfl (lv_room (Nat.le_of_ble_eq_true rfl)) dL_hasFeast_6 ⟨Nat.le_of_ble_eq_true rfl, Nat.le_of_ble_eq_true rfl⟩) hS (fun a _ h => Or.inl h) (fun a h => Or.inl h) (fun E ce q9 H1 locs hE hy9 hk9 hS hce hcv hcl => ?_) (fun H1 locs hG1 hE hy9 hk9 hS => ?_)
  · have hG9 : gX dC dI dA q σ H1 := gX_kept hG (fun i _ h => hk9 _ h)
    have hO8 := hO.kept (H1 := H1) (fun i p hp => hk9 _ (hO i p hp).lt)
    rcases hE with ⟨hE, rfl⟩ | ⟨hE, rfl⟩
    · refine vx_catch (own := RL) (name := "java/lang/IndexOutOfBoundsException") hown [] ⟨0, 20, 23, 19⟩ [] hTab (fun z h => absurd h List.not_mem_nil) (by decide) (by decide) (hts _ (List.mem_cons_of_mem _ mw604)) (va_Nw.use rfl hL.2.2.1) hce hcv hcl ?_
      refine lv_astore (lv' := [(5, .ref q9), (0, .ref (q 0)), (1, .int (iZ z1)), (2, .int (iZ z2)), (3, .int (iZ (bZ (bb)))), (4, .ref o)]) hx hb dL_hasFeast_23 hl (by decide) rfl (fun ls hl => ?_)
      refine lv_iconst (v := iZ 1) hx hb dL_hasFeast_25 rfl ?_
      refine W.widen (k := 2) (n := 12) (Nat.le_of_ble_eq_true rfl) (Nat.le_of_ble_eq_true rfl) ?_
      exact W.iret (v := iZ 1) hx hb hr (fun t ht hW => ⟨⟨congrArg (fun z : Int => Outcome.returned (some (Value.int (iZ z)))) (show 1 = ex2 (!inb z1 0 3 || !inb z2 0 3) (false) from hE.symm), by rw [ht]; exact ⟨gX_cast hG9 (if_neg (by rw [hE]; decide)).symm, sn, sv, fun z => absurd z (by rw [hE]; decide), hO8⟩⟩, hS.F ht⟩) hS.2.2 dL_hasFeast_26 hlocks
    · exact absurd hE ex2_no2
  obtain ⟨tb1, tn1, tm1, htn1, hfit1, htm1, hP1⟩ := hG1
  have hPO := hP1.app (hO.kept (H1 := H1) (fun i p hp => hk9 _ (hO i p hp).lt (by match i, hp with | 0, hp => cases hp; exact hno (hO 0 _ rfl).lt | n + 1, hp => cases hp)))
  generalize H1 = H at hPO hS ⊢
  clear hk9 hy9
  refine kz_b2l hx hb dL_hasFeast_9 dL_hasFeast_12 dL_hasFeast_13 dL_hasFeast_16 ?_
  refine va_putN (D := (dC, dI)) (ci := 5) (v := .long (lZ (bZ ((!bb && inYr σ (z2.toNat) (σ 2 (z1.toNat))))))) (ty := .long) (C := RX2) (T := TX2) (N := 2) hx hb hts (fun w h => List.mem_cons_of_mem _ (gF_1_in h)) tyX2 tyX2_ok nmX2 hown hM.1 hPO (kXO_D hq ho9) hS 9 rfl rfl 0 (by decide) (va_Nw.use rfl hL.1) (fun _ h9 => h9) rfl (by decide +kernel) rfl rfl (Nat.le_of_ble_eq_true rfl) dL_hasFeast_17 (fun H locs hPO hD hS => ?_)
  refine lv_goto (tgt := 27) hx hb dL_hasFeast_20 (by decide) ?_
  refine lv_iconst (v := iZ 0) hx hb dL_hasFeast_27 rfl ?_
  refine W.widen (k := 2) (n := 12) (Nat.le_of_ble_eq_true rfl) (Nat.le_of_ble_eq_true rfl) ?_
  exact W.iret (v := iZ 0) hx hb hr (fun t ht hW => ⟨⟨congrArg (fun z : Int => Outcome.returned (some (Value.int (iZ z)))) (show 0 = ex2 (!inb z1 0 3 || !inb z2 0 3) (false) from hE.symm), by rw [ht]; exact ⟨gX_cast ⟨tb1, tn1, tm1, htn1, hfit1, htm1, va_Pl (a := kX q dA (σ) tb1 (nI tn1) tm1) hPO⟩ (if_pos hE).symm, _, _, fun _ => rfl, va_Pr (a := kX q dA (σ) tb1 (nI tn1) tm1) hPO⟩⟩, hS.F ht⟩) hS.2.2 dL_hasFeast_28 hlocks

abbrev ww_L_yearOrder : List Cond := .codeWith yL_yearOrder cL_yearOrder 6 (some .int) [(0, 13, 16, 19), (0, 13, 20, 21)] :: gT
set_option maxHeartbeats 4000000 in
set_option maxRecDepth 100000 in
theorem c_L_yearOrder (l : Launch) (hst : l.stackTraces = false) (dC : Nat → ClassId) (dI : Nat → Nat → Nat) (dA : Nat → ClassId) (k : Nat → Nat) (q : Nat → Nat) (σ : Nat → Nat → Int) (H0 : Heap) (hG : gX dC dI dA q σ H0) (hOK : kOK σ) (hq : kQI q k) (o : Nat) (sn : Int) (sv : Value) (hO : va_P (dC, dI) vwCl [(o, .inr (5, [.long (lZ sn), sv]))] H0) (hko : k 0 ≤ o) (ho9 : ∀ i : Nat, i < 9 → q i ≠ o) (z1 : Int) (z2 : Int) (w0 : Int) (rz1 : -2147483648 ≤ z1 ∧ z1 < 2147483648) (rz2 : -2147483648 ≤ z2 ∧ z2 < 2147483648) (rw0 : -2147483648 ≤ w0 ∧ w0 < 2147483648) : Met l yL_yearOrder ww_L_yearOrder ({ frames := 10, cells := 3, slots := 18, locals := 345 }) (va_Pc [.ref (q 0), .int (iZ z1), .int (iZ z2), .int (iZ w0), .ref o] (fun U => U.heap = H0 ∧ kMJ dC dI dA k U ∧ kL U)) (kQ2 (some (.int (iZ (ex2 (!inb z1 0 3 || !inb z2 0 3) (!inb w0 0 2))))) (fun H => gX dC dI dA q (if ex2 (!inb z1 0 3 || !inb z2 0 3) (!inb w0 0 2) = 0 then (σ) else σ) H ∧ gO dC dI o (fun n => ex2 (!inb z1 0 3 || !inb z2 0 3) (!inb w0 0 2) = 0 → n = w32 (ordT (σ 2 (z1.toNat)) (σ 2 (z2.toNat)) w0)) H) (kAO q o H0.size)) 3 18 (kAO q o H0.size) := by
  refine k_ofWH (cc := cL_yearOrder) (maxL := 6) (ret := (some .int)) (hh := [(0, 13, 16, 19), (0, 13, 20, 21)]) (by decide) rfl ?_
  intro p e s m args below meth c s₁ B hml hv
  obtain ⟨rfl, hH, hMJ, hL⟩ := hv
  subst hH
  have hM := hMJ.1
  have hAN : ∀ a, kAO q o s.heap.size a → k 0 ≤ a := kAO_N hq hko hM.2.1.1
  have hS : va_S (kAO q o s.heap.size) s.heap s.heap [] := va_S.rf
  have hno : o < s.heap.size → ¬ kA q s.heap.size o := fun h z => z.elim (fun ⟨i, hi, e9⟩ => ho9 i hi e9.symm) (fun y => absurd h (Nat.not_lt.mpr y))
  obtain ⟨tb, tn, tm, htn, hfit, htm, hPx⟩ := id hG
  have hx := B.exec
  have hb := B.bytes
  have hr := B.returns
  have hts := atoms_spec (ws := ww_L_yearOrder) B.pre
  have hown : s.vm.findClass RL = some m.cls := findClass_of_methodNamed B.named
  have hlocks := B.notSynchronized
  have hl := lv_entry ([.ref (q 0), .int (iZ z1), .int (iZ z2), .int (iZ w0), .ref o]) (n := 6) (Nat.le_of_ble_eq_true rfl)
  rw [lg_entry_eq]
  generalize (lg_sl ([.ref (q 0), .int (iZ z1), .int (iZ z2), .int (iZ w0), .ref o]) ++ List.replicate (6 - (lg_sl ([.ref (q 0), .int (iZ z1), .int (iZ z2), .int (iZ w0), .ref o])).length) Slot.unset).toArray = ls at hl ⊢
  have hl : lv_has ls 6 [(0, .ref (q 0)), (1, .int (iZ z1)), (2, .int (iZ z2)), (3, .int (iZ w0)), (4, .ref o)] := hl
  have hTab := vx_table (x := yL_yearOrder) B (hts _ List.mem_cons_self)
  refine lv_aload hx hb dL_yearOrder_0 (lv_at hl 4 rfl) ?_
  refine lv_aload_n hx hb dL_yearOrder_2 rfl (lv_at hl 0 rfl) ?_
  refine lv_iload_n hx hb dL_yearOrder_3 rfl (lv_at hl 1 rfl) ?_
  refine lv_iload_n hx hb dL_yearOrder_4 rfl (lv_at hl 2 rfl) ?_
  refine lv_iload_n hx hb dL_yearOrder_5 rfl (lv_at hl 3 rfl) ?_
  refine kcxc (vx_runV (As := [.int (iZ z1), .int (iZ z2), .int (iZ w0)]) (rest := [.ref o]) ⟨hx, hb, hml, hown, hts⟩ (c_X1_yearOrder l hst dC dI dA k q σ _ hG hOK hq z1 z2 w0 rz1 rz2 rw0) (cwV 3 hts (kg_V mw928 mw929 mw930 mw42 rfl mw931) rfl rfl rfl hdV_X1_yearOrder ⟨Nat.le_of_ble_eq_true rfl, Nat.le_of_ble_eq_true rfl⟩) ⟨fun a U g mk q => ⟨q.1, q.2.1, kM_call q.2.2⟩, va_recv hM.1 hPx (ci := 4) (q0 := 0) rfl rfl, fun U hU hW => ⟨rfl, hU, kM_kept hM hS hAN hU hW⟩⟩ rfl rfl hl.1 rfl (lv_room (Nat.le_of_ble_eq_true rfl)) dL_yearOrder_6 ⟨Nat.le_of_ble_eq_true rfl, Nat.le_of_ble_eq_true rfl⟩) hS (fun a _ h => Or.inl h) (fun a h => Or.inl h) (fun E ce q9 H1 locs hE hy9 hk9 hS hce hcv hcl => ?_) (fun H1 locs hG1 hE hy9 hk9 hS => ?_)
  · have hG9 : gX dC dI dA q σ H1 := gX_kept hG (fun i _ h => hk9 _ h)
    have hO8 := hO.kept (H1 := H1) (fun i p hp => hk9 _ (hO i p hp).lt)
    rcases hE with ⟨hE, rfl⟩ | ⟨hE, rfl⟩
    · refine vx_catch (own := RL) (name := "java/lang/IndexOutOfBoundsException") hown [] ⟨0, 13, 16, 19⟩ [⟨0, 13, 20, 21⟩] hTab (fun z h => absurd h List.not_mem_nil) (by decide) (by decide) (hts _ (List.mem_cons_of_mem _ mw604)) (va_Nw.use rfl hL.2.2.1) hce hcv hcl ?_
      refine lv_astore (lv' := [(5, .ref q9), (0, .ref (q 0)), (1, .int (iZ z1)), (2, .int (iZ z2)), (3, .int (iZ w0)), (4, .ref o)]) hx hb dL_yearOrder_16 hl (by decide) rfl (fun ls hl => ?_)
      refine lv_iconst (v := iZ 1) hx hb dL_yearOrder_18 rfl ?_
      refine W.widen (k := 3) (n := 18) (Nat.le_of_ble_eq_true rfl) (Nat.le_of_ble_eq_true rfl) ?_
      exact W.iret (v := iZ 1) hx hb hr (fun t ht hW => ⟨⟨congrArg (fun z : Int => Outcome.returned (some (Value.int (iZ z)))) (show 1 = ex2 (!inb z1 0 3 || !inb z2 0 3) (!inb w0 0 2) from hE.symm), by rw [ht]; exact ⟨gX_cast hG9 (if_neg (by rw [hE]; decide)).symm, sn, sv, fun z => absurd z (by rw [hE]; decide), hO8⟩⟩, hS.F ht⟩) hS.2.2 dL_yearOrder_19 hlocks
    · refine vx_catch (own := RL) (name := "java/lang/IllegalArgumentException") hown [⟨0, 13, 16, 19⟩] ⟨0, 13, 20, 21⟩ [] hTab (fun z h => by cases List.mem_singleton.mp h; exact Or.inr ⟨by decide, "java/lang/IndexOutOfBoundsException", (hts _ (List.mem_cons_of_mem _ mw604)), hM.2.1.2.2.2.2.2.2.2.2.2.2.2⟩) (by decide) (by decide) (hts _ (List.mem_cons_of_mem _ mw605)) (va_Nw.use rfl hL.2.2.2) hce hcv hcl ?_
      refine lv_astore (lv' := [(5, .ref q9), (0, .ref (q 0)), (1, .int (iZ z1)), (2, .int (iZ z2)), (3, .int (iZ w0)), (4, .ref o)]) hx hb dL_yearOrder_20 hl (by decide) rfl (fun ls hl => ?_)
      refine lv_iconst (v := iZ 2) hx hb dL_yearOrder_22 rfl ?_
      refine W.widen (k := 3) (n := 18) (Nat.le_of_ble_eq_true rfl) (Nat.le_of_ble_eq_true rfl) ?_
      exact W.iret (v := iZ 2) hx hb hr (fun t ht hW => ⟨⟨congrArg (fun z : Int => Outcome.returned (some (Value.int (iZ z)))) (show 2 = ex2 (!inb z1 0 3 || !inb z2 0 3) (!inb w0 0 2) from hE.symm), by rw [ht]; exact ⟨gX_cast hG9 (if_neg (by rw [hE]; decide)).symm, sn, sv, fun z => absurd z (by rw [hE]; decide), hO8⟩⟩, hS.F ht⟩) hS.2.2 dL_yearOrder_23 hlocks
  obtain ⟨tb1, tn1, tm1, htn1, hfit1, htm1, hP1⟩ := hG1
  have hPO := hP1.app (hO.kept (H1 := H1) (fun i p hp => hk9 _ (hO i p hp).lt (by match i, hp with | 0, hp => cases hp; exact hno (hO 0 _ rfl).lt | n + 1, hp => cases hp)))
  generalize H1 = H at hPO hS ⊢
  clear hk9 hy9
  refine kz_w32 ?_
  refine kz_i2l hx hb (w32_rng _) dL_yearOrder_9 ?_
  refine va_putN (D := (dC, dI)) (ci := 5) (v := .long (lZ ((w32 (ordT (σ 2 (z1.toNat)) (σ 2 (z2.toNat)) w0))))) (ty := .long) (C := RX2) (T := TX2) (N := 2) hx hb hts (fun w h => List.mem_cons_of_mem _ (gF_1_in h)) tyX2 tyX2_ok nmX2 hown hM.1 hPO (kXO_D hq ho9) hS 9 rfl rfl 0 (by decide) (va_Nw.use rfl hL.1) (fun _ h9 => h9) rfl (by decide +kernel) rfl rfl (Nat.le_of_ble_eq_true rfl) dL_yearOrder_10 (fun H locs hPO hD hS => ?_)
  refine lv_goto (tgt := 24) hx hb dL_yearOrder_13 (by decide) ?_
  refine lv_iconst (v := iZ 0) hx hb dL_yearOrder_24 rfl ?_
  refine W.widen (k := 3) (n := 18) (Nat.le_of_ble_eq_true rfl) (Nat.le_of_ble_eq_true rfl) ?_
  exact W.iret (v := iZ 0) hx hb hr (fun t ht hW => ⟨⟨congrArg (fun z : Int => Outcome.returned (some (Value.int (iZ z)))) (show 0 = ex2 (!inb z1 0 3 || !inb z2 0 3) (!inb w0 0 2) from hE.symm), by rw [ht]; exact ⟨gX_cast ⟨tb1, tn1, tm1, htn1, hfit1, htm1, va_Pl (a := kX q dA (σ) tb1 (nI tn1) tm1) hPO⟩ (if_pos hE).symm, _, _, fun _ => rfl, va_Pr (a := kX q dA (σ) tb1 (nI tn1) tm1) hPO⟩⟩, hS.F ht⟩) hS.2.2 dL_yearOrder_25 hlocks

abbrev ww_L_isYear : List Cond := .codeWith yL_isYear cL_isYear 6 (some .int) [(0, 20, 23, 19), (0, 20, 27, 21)] :: gT
set_option maxHeartbeats 4000000 in
set_option maxRecDepth 100000 in
theorem c_L_isYear (l : Launch) (hst : l.stackTraces = false) (dC : Nat → ClassId) (dI : Nat → Nat → Nat) (dA : Nat → ClassId) (k : Nat → Nat) (q : Nat → Nat) (σ : Nat → Nat → Int) (H0 : Heap) (hG : gX dC dI dA q σ H0) (hOK : kOK σ) (hq : kQI q k) (o : Nat) (sn : Int) (sv : Value) (hO : va_P (dC, dI) vwCl [(o, .inr (5, [.long (lZ sn), sv]))] H0) (hko : k 0 ≤ o) (ho9 : ∀ i : Nat, i < 9 → q i ≠ o) (z1 : Int) (w0 : Int) (z2 : Int) (rz1 : -2147483648 ≤ z1 ∧ z1 < 2147483648) (rw0 : -2147483648 ≤ w0 ∧ w0 < 2147483648) (rz2 : -2147483648 ≤ z2 ∧ z2 < 2147483648) : Met l yL_isYear ww_L_isYear ({ frames := 10, cells := 3, slots := 18, locals := 345 }) (va_Pc [.ref (q 0), .int (iZ z1), .int (iZ w0), .int (iZ z2), .ref o] (fun U => U.heap = H0 ∧ kMJ dC dI dA k U ∧ kL U)) (kQ2 (some (.int (iZ (ex2 (!inb z1 0 3 || !inb z2 0 3) (!inb w0 0 4))))) (fun H => gX dC dI dA q (if ex2 (!inb z1 0 3 || !inb z2 0 3) (!inb w0 0 4) = 0 then (σ) else σ) H ∧ gO dC dI o (fun n => ex2 (!inb z1 0 3 || !inb z2 0 3) (!inb w0 0 4) = 0 → n = bZ (decide (w0 = 1 ∧ σ 2 (z1.toNat) = σ 2 (z2.toNat)))) H) (kAO q o H0.size)) 3 18 (kAO q o H0.size) := by
  refine k_ofWH (cc := cL_isYear) (maxL := 6) (ret := (some .int)) (hh := [(0, 20, 23, 19), (0, 20, 27, 21)]) (by decide) rfl ?_
  intro p e s m args below meth c s₁ B hml hv
  obtain ⟨rfl, hH, hMJ, hL⟩ := hv
  subst hH
  have hM := hMJ.1
  have hAN : ∀ a, kAO q o s.heap.size a → k 0 ≤ a := kAO_N hq hko hM.2.1.1
  have hS : va_S (kAO q o s.heap.size) s.heap s.heap [] := va_S.rf
  have hno : o < s.heap.size → ¬ kA q s.heap.size o := fun h z => z.elim (fun ⟨i, hi, e9⟩ => ho9 i hi e9.symm) (fun y => absurd h (Nat.not_lt.mpr y))
  obtain ⟨tb, tn, tm, htn, hfit, htm, hPx⟩ := id hG
  have hx := B.exec
  have hb := B.bytes
  have hr := B.returns
  have hts := atoms_spec (ws := ww_L_isYear) B.pre
  have hown : s.vm.findClass RL = some m.cls := findClass_of_methodNamed B.named
  have hlocks := B.notSynchronized
  have hl := lv_entry ([.ref (q 0), .int (iZ z1), .int (iZ w0), .int (iZ z2), .ref o]) (n := 6) (Nat.le_of_ble_eq_true rfl)
  rw [lg_entry_eq]
  generalize (lg_sl ([.ref (q 0), .int (iZ z1), .int (iZ w0), .int (iZ z2), .ref o]) ++ List.replicate (6 - (lg_sl ([.ref (q 0), .int (iZ z1), .int (iZ w0), .int (iZ z2), .ref o])).length) Slot.unset).toArray = ls at hl ⊢
  have hl : lv_has ls 6 [(0, .ref (q 0)), (1, .int (iZ z1)), (2, .int (iZ w0)), (3, .int (iZ z2)), (4, .ref o)] := hl
  have hTab := vx_table (x := yL_isYear) B (hts _ List.mem_cons_self)
  refine lv_aload hx hb dL_isYear_0 (lv_at hl 4 rfl) ?_
  refine lv_aload_n hx hb dL_isYear_2 rfl (lv_at hl 0 rfl) ?_
  refine lv_iload_n hx hb dL_isYear_3 rfl (lv_at hl 1 rfl) ?_
  refine lv_iload_n hx hb dL_isYear_4 rfl (lv_at hl 2 rfl) ?_
  refine lv_iload_n hx hb dL_isYear_5 rfl (lv_at hl 3 rfl) ?_
  refine kcxc (vx_runV (As := [.int (iZ z1), .int (iZ w0), .int (iZ z2)]) (rest := [.ref o]) ⟨hx, hb, hml, hown, hts⟩ (c_X1_isYear l hst dC dI dA k q σ _ hG hOK hq z1 w0 z2 rz1 rw0 rz2) (cwV 3 hts (kg_V mw935 mw936 mw937 mw42 rfl mw938) rfl rfl rfl hdV_X1_isYear ⟨Nat.le_of_ble_eq_true rfl, Nat.le_of_ble_eq_true rfl⟩) ⟨fun a U g mk q => ⟨q.1, q.2.1, kM_call q.2.2⟩, va_recv hM.1 hPx (ci := 4) (q0 := 0) rfl rfl, fun U hU hW => ⟨rfl, hU, kM_kept hM hS hAN hU hW⟩⟩ rfl rfl hl.1 rfl (lv_room (Nat.le_of_ble_eq_true rfl)) dL_isYear_6 ⟨Nat.le_of_ble_eq_true rfl, Nat.le_of_ble_eq_true rfl⟩) hS (fun a _ h => Or.inl h) (fun a h => Or.inl h) (fun E ce q9 H1 locs hE hy9 hk9 hS hce hcv hcl => ?_) (fun H1 locs hG1 hE hy9 hk9 hS => ?_)
  · have hG9 : gX dC dI dA q σ H1 := gX_kept hG (fun i _ h => hk9 _ h)
    have hO8 := hO.kept (H1 := H1) (fun i p hp => hk9 _ (hO i p hp).lt)
    rcases hE with ⟨hE, rfl⟩ | ⟨hE, rfl⟩
    · refine vx_catch (own := RL) (name := "java/lang/IndexOutOfBoundsException") hown [] ⟨0, 20, 23, 19⟩ [⟨0, 20, 27, 21⟩] hTab (fun z h => absurd h List.not_mem_nil) (by decide) (by decide) (hts _ (List.mem_cons_of_mem _ mw604)) (va_Nw.use rfl hL.2.2.1) hce hcv hcl ?_
      refine lv_astore (lv' := [(5, .ref q9), (0, .ref (q 0)), (1, .int (iZ z1)), (2, .int (iZ w0)), (3, .int (iZ z2)), (4, .ref o)]) hx hb dL_isYear_23 hl (by decide) rfl (fun ls hl => ?_)
      refine lv_iconst (v := iZ 1) hx hb dL_isYear_25 rfl ?_
      refine W.widen (k := 3) (n := 18) (Nat.le_of_ble_eq_true rfl) (Nat.le_of_ble_eq_true rfl) ?_
      exact W.iret (v := iZ 1) hx hb hr (fun t ht hW => ⟨⟨congrArg (fun z : Int => Outcome.returned (some (Value.int (iZ z)))) (show 1 = ex2 (!inb z1 0 3 || !inb z2 0 3) (!inb w0 0 4) from hE.symm), by rw [ht]; exact ⟨gX_cast hG9 (if_neg (by rw [hE]; decide)).symm, sn, sv, fun z => absurd z (by rw [hE]; decide), hO8⟩⟩, hS.F ht⟩) hS.2.2 dL_isYear_26 hlocks
    · refine vx_catch (own := RL) (name := "java/lang/IllegalArgumentException") hown [⟨0, 20, 23, 19⟩] ⟨0, 20, 27, 21⟩ [] hTab (fun z h => by cases List.mem_singleton.mp h; exact Or.inr ⟨by decide, "java/lang/IndexOutOfBoundsException", (hts _ (List.mem_cons_of_mem _ mw604)), hM.2.1.2.2.2.2.2.2.2.2.2.2.2⟩) (by decide) (by decide) (hts _ (List.mem_cons_of_mem _ mw605)) (va_Nw.use rfl hL.2.2.2) hce hcv hcl ?_
      refine lv_astore (lv' := [(5, .ref q9), (0, .ref (q 0)), (1, .int (iZ z1)), (2, .int (iZ w0)), (3, .int (iZ z2)), (4, .ref o)]) hx hb dL_isYear_27 hl (by decide) rfl (fun ls hl => ?_)
      refine lv_iconst (v := iZ 2) hx hb dL_isYear_29 rfl ?_
      refine W.widen (k := 3) (n := 18) (Nat.le_of_ble_eq_true rfl) (Nat.le_of_ble_eq_true rfl) ?_
      exact W.iret (v := iZ 2) hx hb hr (fun t ht hW => ⟨⟨congrArg (fun z : Int => Outcome.returned (some (Value.int (iZ z)))) (show 2 = ex2 (!inb z1 0 3 || !inb z2 0 3) (!inb w0 0 4) from hE.symm), by rw [ht]; exact ⟨gX_cast hG9 (if_neg (by rw [hE]; decide)).symm, sn, sv, fun z => absurd z (by rw [hE]; decide), hO8⟩⟩, hS.F ht⟩) hS.2.2 dL_isYear_30 hlocks
  obtain ⟨tb1, tn1, tm1, htn1, hfit1, htm1, hP1⟩ := hG1
  have hPO := hP1.app (hO.kept (H1 := H1) (fun i p hp => hk9 _ (hO i p hp).lt (by match i, hp with | 0, hp => cases hp; exact hno (hO 0 _ rfl).lt | n + 1, hp => cases hp)))
  generalize H1 = H at hPO hS ⊢
  clear hk9 hy9
  refine kz_b2l hx hb dL_isYear_9 dL_isYear_12 dL_isYear_13 dL_isYear_16 ?_
  refine va_putN (D := (dC, dI)) (ci := 5) (v := .long (lZ (bZ (decide (w0 = 1 ∧ σ 2 (z1.toNat) = σ 2 (z2.toNat)))))) (ty := .long) (C := RX2) (T := TX2) (N := 2) hx hb hts (fun w h => List.mem_cons_of_mem _ (gF_1_in h)) tyX2 tyX2_ok nmX2 hown hM.1 hPO (kXO_D hq ho9) hS 9 rfl rfl 0 (by decide) (va_Nw.use rfl hL.1) (fun _ h9 => h9) rfl (by decide +kernel) rfl rfl (Nat.le_of_ble_eq_true rfl) dL_isYear_17 (fun H locs hPO hD hS => ?_)
  refine lv_goto (tgt := 31) hx hb dL_isYear_20 (by decide) ?_
  refine lv_iconst (v := iZ 0) hx hb dL_isYear_31 rfl ?_
  refine W.widen (k := 3) (n := 18) (Nat.le_of_ble_eq_true rfl) (Nat.le_of_ble_eq_true rfl) ?_
  exact W.iret (v := iZ 0) hx hb hr (fun t ht hW => ⟨⟨congrArg (fun z : Int => Outcome.returned (some (Value.int (iZ z)))) (show 0 = ex2 (!inb z1 0 3 || !inb z2 0 3) (!inb w0 0 4) from hE.symm), by rw [ht]; exact ⟨gX_cast ⟨tb1, tn1, tm1, htn1, hfit1, htm1, va_Pl (a := kX q dA (σ) tb1 (nI tn1) tm1) hPO⟩ (if_pos hE).symm, _, _, fun _ => rfl, va_Pr (a := kX q dA (σ) tb1 (nI tn1) tm1) hPO⟩⟩, hS.F ht⟩) hS.2.2 dL_isYear_32 hlocks

abbrev ww_L_yearTo : List Cond := .codeWith yL_yearTo cL_yearTo 7 (some .int) [(0, 14, 17, 19), (0, 14, 21, 21)] :: gT
set_option maxHeartbeats 4000000 in
set_option maxRecDepth 100000 in
theorem c_L_yearTo (l : Launch) (hst : l.stackTraces = false) (dC : Nat → ClassId) (dI : Nat → Nat → Nat) (dA : Nat → ClassId) (k : Nat → Nat) (q : Nat → Nat) (σ : Nat → Nat → Int) (H0 : Heap) (hG : gX dC dI dA q σ H0) (hOK : kOK σ) (hq : kQI q k) (o : Nat) (sn : Int) (sv : Value) (hO : va_P (dC, dI) vwCl [(o, .inr (5, [.long (lZ sn), sv]))] H0) (hko : k 0 ≤ o) (ho9 : ∀ i : Nat, i < 9 → q i ≠ o) (z1 : Int) (z2 : Int) (uu : Int) (bb : Bool) (rz1 : -2147483648 ≤ z1 ∧ z1 < 2147483648) (rz2 : -2147483648 ≤ z2 ∧ z2 < 2147483648) (ruu : -2147483648 ≤ uu ∧ uu < 2147483648) : Met l yL_yearTo ww_L_yearTo ({ frames := 10, cells := 5, slots := 38, locals := 348 }) (va_Pc [.ref (q 0), .int (iZ z1), .int (iZ z2), .int (iZ uu), .int (iZ (bZ (bb))), .ref o] (fun U => U.heap = H0 ∧ kMJ dC dI dA k U ∧ kL U)) (kQ2 (some (.int (iZ (ex2 (!inb z1 0 3 || !inb z2 0 3) (!inb uu 1 4))))) (fun H => gX dC dI dA q (if ex2 (!inb z1 0 3 || !inb z2 0 3) (!inb uu 1 4) = 0 then σ else σ) H ∧ gOS dC dI dA o H0.size (ex2 (!inb z1 0 3 || !inb z2 0 3) (!inb uu 1 4) = 0) (tq (12 * (σ 2 z2.toNat - σ 2 z1.toNat)) (usize uu)) H) (kAO q o H0.size)) 5 38 (kAO q o H0.size) := by
  refine k_ofWH (cc := cL_yearTo) (maxL := 7) (ret := (some .int)) (hh := [(0, 14, 17, 19), (0, 14, 21, 21)]) (by decide) rfl ?_
  intro p e s m args below meth c s₁ B hml hv
  obtain ⟨rfl, hH, hMJ, hL⟩ := hv
  subst hH
  have hM := hMJ.1
  have hAN : ∀ a, kAO q o s.heap.size a → k 0 ≤ a := kAO_N hq hko hM.2.1.1
  have hS : va_S (kAO q o s.heap.size) s.heap s.heap [] := va_S.rf
  have hno : o < s.heap.size → ¬ kA q s.heap.size o := fun h z => z.elim (fun ⟨i, hi, e9⟩ => ho9 i hi e9.symm) (fun y => absurd h (Nat.not_lt.mpr y))
  obtain ⟨tb, tn, tm, htn, hfit, htm, hPx⟩ := id hG
  have hx := B.exec
  have hb := B.bytes
  have hr := B.returns
  have hts := atoms_spec (ws := ww_L_yearTo) B.pre
  have hown : s.vm.findClass RL = some m.cls := findClass_of_methodNamed B.named
  have hlocks := B.notSynchronized
  have hl := lv_entry ([.ref (q 0), .int (iZ z1), .int (iZ z2), .int (iZ uu), .int (iZ (bZ (bb))), .ref o]) (n := 7) (Nat.le_of_ble_eq_true rfl)
  rw [lg_entry_eq]
  generalize (lg_sl ([.ref (q 0), .int (iZ z1), .int (iZ z2), .int (iZ uu), .int (iZ (bZ (bb))), .ref o]) ++ List.replicate (7 - (lg_sl ([.ref (q 0), .int (iZ z1), .int (iZ z2), .int (iZ uu), .int (iZ (bZ (bb))), .ref o])).length) Slot.unset).toArray = ls at hl ⊢
  have hl : lv_has ls 7 [(0, .ref (q 0)), (1, .int (iZ z1)), (2, .int (iZ z2)), (3, .int (iZ uu)), (4, .int (iZ (bZ (bb)))), (5, .ref o)] := hl
  have hTab := vx_table (x := yL_yearTo) B (hts _ List.mem_cons_self)
  refine lv_aload hx hb dL_yearTo_0 (lv_at hl 5 rfl) ?_
  refine lv_aload_n hx hb dL_yearTo_2 rfl (lv_at hl 0 rfl) ?_
  refine lv_iload_n hx hb dL_yearTo_3 rfl (lv_at hl 1 rfl) ?_
  refine lv_iload_n hx hb dL_yearTo_4 rfl (lv_at hl 2 rfl) ?_
  refine lv_iload_n hx hb dL_yearTo_5 rfl (lv_at hl 3 rfl) ?_
  refine lv_iload hx hb dL_yearTo_6 (lv_at hl 4 rfl) ?_
  refine kcxr (vx_runV (As := [.int (iZ z1), .int (iZ z2), .int (iZ uu), .int (iZ (bZ (bb)))]) (rest := [.ref o]) ⟨hx, hb, hml, hown, hts⟩ (c_X1_yearTo l hst dC dI dA k q σ _ hG hOK hq z1 z2 uu bb rz1 rz2 ruu) (cwV 4 hts (kg_V mw942 mw943 mw944 mw42 rfl mw945) rfl rfl rfl hdV_X1_yearTo ⟨Nat.le_of_ble_eq_true rfl, Nat.le_of_ble_eq_true rfl⟩) ⟨fun a U g mk q => ⟨q.1, q.2.1, kMJ_call q.2.2⟩, va_recv hM.1 hPx (ci := 4) (q0 := 0) rfl rfl, fun U hU hW => ⟨rfl, hU, kMJ_kept hMJ hS hAN hU hW⟩⟩ rfl rfl hl.1 rfl (lv_room (Nat.le_of_ble_eq_true rfl)) dL_yearTo_8 ⟨Nat.le_of_ble_eq_true rfl, Nat.le_of_ble_eq_true rfl⟩) hS (fun a _ h => Or.inl h) (fun a h => Or.inl h) (fun E ce q9 H1 locs hE hy9 hk9 hS hce hcv hcl => ?_) (fun x9 H1 locs hG1 hE hy9 hk9 hS => ?_)
  · have hG9 : gX dC dI dA q σ H1 := gX_kept hG (fun i _ h => hk9 _ h)
    have hO8 := hO.kept (H1 := H1) (fun i p hp => hk9 _ (hO i p hp).lt)
    rcases hE with ⟨hE, rfl⟩ | ⟨hE, rfl⟩
    · refine vx_catch (own := RL) (name := "java/lang/IndexOutOfBoundsException") hown [] ⟨0, 14, 17, 19⟩ [⟨0, 14, 21, 21⟩] hTab (fun z h => absurd h List.not_mem_nil) (by decide) (by decide) (hts _ (List.mem_cons_of_mem _ mw604)) (va_Nw.use rfl hL.2.2.1) hce hcv hcl ?_
      refine lv_astore (lv' := [(6, .ref q9), (0, .ref (q 0)), (1, .int (iZ z1)), (2, .int (iZ z2)), (3, .int (iZ uu)), (4, .int (iZ (bZ (bb)))), (5, .ref o)]) hx hb dL_yearTo_17 hl (by decide) rfl (fun ls hl => ?_)
      refine lv_iconst (v := iZ 1) hx hb dL_yearTo_19 rfl ?_
      refine W.widen (k := 5) (n := 38) (Nat.le_of_ble_eq_true rfl) (Nat.le_of_ble_eq_true rfl) ?_
      exact W.iret (v := iZ 1) hx hb hr (fun t ht hW => ⟨⟨congrArg (fun z : Int => Outcome.returned (some (Value.int (iZ z)))) (show 1 = ex2 (!inb z1 0 3 || !inb z2 0 3) (!inb uu 1 4) from hE.symm), by rw [ht]; exact ⟨gX_cast hG9 (if_neg (by rw [hE]; decide)).symm, sn, sv, hO8, fun z => absurd z (by rw [hE]; decide)⟩⟩, hS.F ht⟩) hS.2.2 dL_yearTo_20 hlocks
    · refine vx_catch (own := RL) (name := "java/lang/IllegalArgumentException") hown [⟨0, 14, 17, 19⟩] ⟨0, 14, 21, 21⟩ [] hTab (fun z h => by cases List.mem_singleton.mp h; exact Or.inr ⟨by decide, "java/lang/IndexOutOfBoundsException", (hts _ (List.mem_cons_of_mem _ mw604)), hM.2.1.2.2.2.2.2.2.2.2.2.2.2⟩) (by decide) (by decide) (hts _ (List.mem_cons_of_mem _ mw605)) (va_Nw.use rfl hL.2.2.2) hce hcv hcl ?_
      refine lv_astore (lv' := [(6, .ref q9), (0, .ref (q 0)), (1, .int (iZ z1)), (2, .int (iZ z2)), (3, .int (iZ uu)), (4, .int (iZ (bZ (bb)))), (5, .ref o)]) hx hb dL_yearTo_21 hl (by decide) rfl (fun ls hl => ?_)
      refine lv_iconst (v := iZ 2) hx hb dL_yearTo_23 rfl ?_
      refine W.widen (k := 5) (n := 38) (Nat.le_of_ble_eq_true rfl) (Nat.le_of_ble_eq_true rfl) ?_
      exact W.iret (v := iZ 2) hx hb hr (fun t ht hW => ⟨⟨congrArg (fun z : Int => Outcome.returned (some (Value.int (iZ z)))) (show 2 = ex2 (!inb z1 0 3 || !inb z2 0 3) (!inb uu 1 4) from hE.symm), by rw [ht]; exact ⟨gX_cast hG9 (if_neg (by rw [hE]; decide)).symm, sn, sv, hO8, fun z => absurd z (by rw [hE]; decide)⟩⟩, hS.F ht⟩) hS.2.2 dL_yearTo_24 hlocks
  obtain ⟨⟨tb1, tn1, tm1, htn1, hfit1, htm1, hP1⟩, w9, g9, ⟨hx9, hw9, hxw⟩, ht9, hT9⟩ := hG1
  have hPO := (hP1.app (hO.kept (H1 := H1) (fun i p hp => hk9 _ (hO i p hp).lt (by match i, hp with | 0, hp => cases hp; exact hno (hO 0 _ rfl).lt | n + 1, hp => cases hp)))).app hT9
  generalize H1 = H at hPO hS ⊢
  clear hk9 hy9
  refine va_putN (D := (dC, dI)) (ci := 5) (v := .ref x9) (ty := .object "java/lang/String") (C := RX2) (T := TX2) (N := 2) hx hb hts (fun w h => List.mem_cons_of_mem _ (gF_1_in h)) tyX2 tyX2_ok nmX2 hown hM.1 hPO (kXOS_D hq ho9 (gX_ltT hG) (hO 0 _ rfl).lt hx9 hw9 hxw) hS 9 rfl rfl 1 (by decide) (va_Nw.use rfl hL.2.1) (fun _ h9 => h9) rfl (by decide +kernel) rfl rfl (Nat.le_of_ble_eq_true rfl) dL_yearTo_11 (fun H locs hPO hD hS => ?_)
  have hPO : va_P (dC, dI) vwCl (kX q dA σ tb1 (nI tn1) tm1 ++ [(o, .inr (5, [.long (lZ sn), .ref x9]))] ++ kS x9 w9 dA g9 (TL (tq (12 * (σ 2 z2.toNat - σ 2 z1.toNat)) (usize uu)))) _ := hPO
  refine lv_goto (tgt := 25) hx hb dL_yearTo_14 (by decide) ?_
  refine lv_iconst (v := iZ 0) hx hb dL_yearTo_25 rfl ?_
  refine W.widen (k := 5) (n := 38) (Nat.le_of_ble_eq_true rfl) (Nat.le_of_ble_eq_true rfl) ?_
  exact W.iret (v := iZ 0) hx hb hr (fun t ht hW => ⟨⟨congrArg (fun z : Int => Outcome.returned (some (Value.int (iZ z)))) (show 0 = ex2 (!inb z1 0 3 || !inb z2 0 3) (!inb uu 1 4) from hE.symm), by rw [ht]; exact ⟨gX_cast ⟨tb1, tn1, tm1, htn1, hfit1, htm1, va_Pl (a := kX q dA σ tb1 (nI tn1) tm1) (va_Pl hPO)⟩ (if_pos hE).symm, sn, .ref x9, va_Pr (a := kX q dA σ tb1 (nI tn1) tm1) (va_Pl hPO), fun _ => ⟨x9, rfl, w9, g9, ⟨hx9, hw9, hxw⟩, ht9, va_Pr hPO⟩⟩⟩, hS.F ht⟩) hS.2.2 dL_yearTo_26 hlocks

abbrev ww_L_ofFeast : List Cond := .codeWith yL_ofFeast cL_ofFeast 5 (some .int) [(0, 11, 14, 19), (0, 11, 18, 21)] :: gT
set_option maxHeartbeats 4000000 in
set_option maxRecDepth 100000 in
theorem c_L_ofFeast (l : Launch) (hst : l.stackTraces = false) (dC : Nat → ClassId) (dI : Nat → Nat → Nat) (dA : Nat → ClassId) (k : Nat → Nat) (q : Nat → Nat) (σ : Nat → Nat → Int) (H0 : Heap) (hG : gX dC dI dA q σ H0) (hOK : kOK σ) (hq : kQI q k) (o : Nat) (sn : Int) (sv : Value) (hO : va_P (dC, dI) vwCl [(o, .inr (5, [.long (lZ sn), sv]))] H0) (hko : k 0 ≤ o) (ho9 : ∀ i : Nat, i < 9 → q i ≠ o) (z1 : Int) (w0 : Int) (rz1 : -2147483648 ≤ z1 ∧ z1 < 2147483648) (rw0 : -2147483648 ≤ w0 ∧ w0 < 2147483648) : Met l yL_ofFeast ww_L_ofFeast ({ frames := 10, cells := 2, slots := 12, locals := 344 }) (va_Pc [.ref (q 0), .int (iZ z1), .int (iZ w0), .ref o] (fun U => U.heap = H0 ∧ kMJ dC dI dA k U ∧ kL U)) (kQ2 (some (.int (iZ (ex2 (!inb z1 0 3) (!inb w0 0 4))))) (fun H => gX dC dI dA q (if ex2 (!inb z1 0 3) (!inb w0 0 4) = 0 then (σ) else σ) H ∧ gO dC dI o (fun n => ex2 (!inb z1 0 3) (!inb w0 0 4) = 0 → n = w32 (ofF σ (z1.toNat) w0)) H) (kAO q o H0.size)) 2 12 (kAO q o H0.size) := by
  refine k_ofWH (cc := cL_ofFeast) (maxL := 5) (ret := (some .int)) (hh := [(0, 11, 14, 19), (0, 11, 18, 21)]) (by decide) rfl ?_
  intro p e s m args below meth c s₁ B hml hv
  obtain ⟨rfl, hH, hMJ, hL⟩ := hv
  subst hH
  have hM := hMJ.1
  have hAN : ∀ a, kAO q o s.heap.size a → k 0 ≤ a := kAO_N hq hko hM.2.1.1
  have hS : va_S (kAO q o s.heap.size) s.heap s.heap [] := va_S.rf
  have hno : o < s.heap.size → ¬ kA q s.heap.size o := fun h z => z.elim (fun ⟨i, hi, e9⟩ => ho9 i hi e9.symm) (fun y => absurd h (Nat.not_lt.mpr y))
  obtain ⟨tb, tn, tm, htn, hfit, htm, hPx⟩ := id hG
  have hx := B.exec
  have hb := B.bytes
  have hr := B.returns
  have hts := atoms_spec (ws := ww_L_ofFeast) B.pre
  have hown : s.vm.findClass RL = some m.cls := findClass_of_methodNamed B.named
  have hlocks := B.notSynchronized
  have hl := lv_entry ([.ref (q 0), .int (iZ z1), .int (iZ w0), .ref o]) (n := 5) (Nat.le_of_ble_eq_true rfl)
  rw [lg_entry_eq]
  generalize (lg_sl ([.ref (q 0), .int (iZ z1), .int (iZ w0), .ref o]) ++ List.replicate (5 - (lg_sl ([.ref (q 0), .int (iZ z1), .int (iZ w0), .ref o])).length) Slot.unset).toArray = ls at hl ⊢
  have hl : lv_has ls 5 [(0, .ref (q 0)), (1, .int (iZ z1)), (2, .int (iZ w0)), (3, .ref o)] := hl
  have hTab := vx_table (x := yL_ofFeast) B (hts _ List.mem_cons_self)
  refine lv_aload_n hx hb dL_ofFeast_0 rfl (lv_at hl 3 rfl) ?_
  refine lv_aload_n hx hb dL_ofFeast_1 rfl (lv_at hl 0 rfl) ?_
  refine lv_iload_n hx hb dL_ofFeast_2 rfl (lv_at hl 1 rfl) ?_
  refine lv_iload_n hx hb dL_ofFeast_3 rfl (lv_at hl 2 rfl) ?_
  refine kcxc (vx_runV (As := [.int (iZ z1), .int (iZ w0)]) (rest := [.ref o]) ⟨hx, hb, hml, hown, hts⟩ (c_X1_ofFeast l hst dC dI dA k q σ _ hG hOK hq z1 w0 rz1 rw0) (cwV 2 hts (kg_V mw949 mw538 mw539 mw42 rfl mw540) rfl rfl rfl hdV_X1_ofFeast ⟨Nat.le_of_ble_eq_true rfl, Nat.le_of_ble_eq_true rfl⟩) ⟨fun a U g mk q => ⟨q.1, q.2.1, kM_call q.2.2⟩, va_recv hM.1 hPx (ci := 4) (q0 := 0) rfl rfl, fun U hU hW => ⟨rfl, hU, kM_kept hM hS hAN hU hW⟩⟩ rfl rfl hl.1 rfl (lv_room (Nat.le_of_ble_eq_true rfl)) dL_ofFeast_4 ⟨Nat.le_of_ble_eq_true rfl, Nat.le_of_ble_eq_true rfl⟩) hS (fun a _ h => Or.inl h) (fun a h => Or.inl h) (fun E ce q9 H1 locs hE hy9 hk9 hS hce hcv hcl => ?_) (fun H1 locs hG1 hE hy9 hk9 hS => ?_)
  · have hG9 : gX dC dI dA q σ H1 := gX_kept hG (fun i _ h => hk9 _ h)
    have hO8 := hO.kept (H1 := H1) (fun i p hp => hk9 _ (hO i p hp).lt)
    rcases hE with ⟨hE, rfl⟩ | ⟨hE, rfl⟩
    · refine vx_catch (own := RL) (name := "java/lang/IndexOutOfBoundsException") hown [] ⟨0, 11, 14, 19⟩ [⟨0, 11, 18, 21⟩] hTab (fun z h => absurd h List.not_mem_nil) (by decide) (by decide) (hts _ (List.mem_cons_of_mem _ mw604)) (va_Nw.use rfl hL.2.2.1) hce hcv hcl ?_
      refine lv_astore (lv' := [(4, .ref q9), (0, .ref (q 0)), (1, .int (iZ z1)), (2, .int (iZ w0)), (3, .ref o)]) hx hb dL_ofFeast_14 hl (by decide) rfl (fun ls hl => ?_)
      refine lv_iconst (v := iZ 1) hx hb dL_ofFeast_16 rfl ?_
      refine W.widen (k := 2) (n := 12) (Nat.le_of_ble_eq_true rfl) (Nat.le_of_ble_eq_true rfl) ?_
      exact W.iret (v := iZ 1) hx hb hr (fun t ht hW => ⟨⟨congrArg (fun z : Int => Outcome.returned (some (Value.int (iZ z)))) (show 1 = ex2 (!inb z1 0 3) (!inb w0 0 4) from hE.symm), by rw [ht]; exact ⟨gX_cast hG9 (if_neg (by rw [hE]; decide)).symm, sn, sv, fun z => absurd z (by rw [hE]; decide), hO8⟩⟩, hS.F ht⟩) hS.2.2 dL_ofFeast_17 hlocks
    · refine vx_catch (own := RL) (name := "java/lang/IllegalArgumentException") hown [⟨0, 11, 14, 19⟩] ⟨0, 11, 18, 21⟩ [] hTab (fun z h => by cases List.mem_singleton.mp h; exact Or.inr ⟨by decide, "java/lang/IndexOutOfBoundsException", (hts _ (List.mem_cons_of_mem _ mw604)), hM.2.1.2.2.2.2.2.2.2.2.2.2.2⟩) (by decide) (by decide) (hts _ (List.mem_cons_of_mem _ mw605)) (va_Nw.use rfl hL.2.2.2) hce hcv hcl ?_
      refine lv_astore (lv' := [(4, .ref q9), (0, .ref (q 0)), (1, .int (iZ z1)), (2, .int (iZ w0)), (3, .ref o)]) hx hb dL_ofFeast_18 hl (by decide) rfl (fun ls hl => ?_)
      refine lv_iconst (v := iZ 2) hx hb dL_ofFeast_20 rfl ?_
      refine W.widen (k := 2) (n := 12) (Nat.le_of_ble_eq_true rfl) (Nat.le_of_ble_eq_true rfl) ?_
      exact W.iret (v := iZ 2) hx hb hr (fun t ht hW => ⟨⟨congrArg (fun z : Int => Outcome.returned (some (Value.int (iZ z)))) (show 2 = ex2 (!inb z1 0 3) (!inb w0 0 4) from hE.symm), by rw [ht]; exact ⟨gX_cast hG9 (if_neg (by rw [hE]; decide)).symm, sn, sv, fun z => absurd z (by rw [hE]; decide), hO8⟩⟩, hS.F ht⟩) hS.2.2 dL_ofFeast_21 hlocks
  obtain ⟨tb1, tn1, tm1, htn1, hfit1, htm1, hP1⟩ := hG1
  have hPO := hP1.app (hO.kept (H1 := H1) (fun i p hp => hk9 _ (hO i p hp).lt (by match i, hp with | 0, hp => cases hp; exact hno (hO 0 _ rfl).lt | n + 1, hp => cases hp)))
  generalize H1 = H at hPO hS ⊢
  clear hk9 hy9
  refine kz_w32 ?_
  refine kz_i2l hx hb (w32_rng _) dL_ofFeast_7 ?_
  refine va_putN (D := (dC, dI)) (ci := 5) (v := .long (lZ ((w32 (ofF σ (z1.toNat) w0))))) (ty := .long) (C := RX2) (T := TX2) (N := 2) hx hb hts (fun w h => List.mem_cons_of_mem _ (gF_1_in h)) tyX2 tyX2_ok nmX2 hown hM.1 hPO (kXO_D hq ho9) hS 9 rfl rfl 0 (by decide) (va_Nw.use rfl hL.1) (fun _ h9 => h9) rfl (by decide +kernel) rfl rfl (Nat.le_of_ble_eq_true rfl) dL_ofFeast_8 (fun H locs hPO hD hS => ?_)
  refine lv_goto (tgt := 22) hx hb dL_ofFeast_11 (by decide) ?_
  refine lv_iconst (v := iZ 0) hx hb dL_ofFeast_22 rfl ?_
  refine W.widen (k := 2) (n := 12) (Nat.le_of_ble_eq_true rfl) (Nat.le_of_ble_eq_true rfl) ?_
  exact W.iret (v := iZ 0) hx hb hr (fun t ht hW => ⟨⟨congrArg (fun z : Int => Outcome.returned (some (Value.int (iZ z)))) (show 0 = ex2 (!inb z1 0 3) (!inb w0 0 4) from hE.symm), by rw [ht]; exact ⟨gX_cast ⟨tb1, tn1, tm1, htn1, hfit1, htm1, va_Pl (a := kX q dA (σ) tb1 (nI tn1) tm1) hPO⟩ (if_pos hE).symm, _, _, fun _ => rfl, va_Pr (a := kX q dA (σ) tb1 (nI tn1) tm1) hPO⟩⟩, hS.F ht⟩) hS.2.2 dL_ofFeast_23 hlocks

abbrev ww_L_isInYear : List Cond := .codeWith yL_isInYear cL_isInYear 5 (some .int) [(0, 18, 21, 19), (0, 18, 25, 21)] :: gT
set_option maxHeartbeats 4000000 in
set_option maxRecDepth 100000 in
theorem c_L_isInYear (l : Launch) (hst : l.stackTraces = false) (dC : Nat → ClassId) (dI : Nat → Nat → Nat) (dA : Nat → ClassId) (k : Nat → Nat) (q : Nat → Nat) (σ : Nat → Nat → Int) (H0 : Heap) (hG : gX dC dI dA q σ H0) (hOK : kOK σ) (hq : kQI q k) (o : Nat) (sn : Int) (sv : Value) (hO : va_P (dC, dI) vwCl [(o, .inr (5, [.long (lZ sn), sv]))] H0) (hko : k 0 ≤ o) (ho9 : ∀ i : Nat, i < 9 → q i ≠ o) (z1 : Int) (yy : Int) (rz1 : -2147483648 ≤ z1 ∧ z1 < 2147483648) (ryy : -2147483648 ≤ yy ∧ yy < 2147483648) : Met l yL_isInYear ww_L_isInYear ({ frames := 11, cells := 2, slots := 12, locals := 364 }) (va_Pc [.ref (q 0), .int (iZ z1), .int (iZ yy), .ref o] (fun U => U.heap = H0 ∧ kMJ dC dI dA k U ∧ kL U)) (kQ2 (some (.int (iZ (ex2 (!inb z1 0 3) (!inb yy (-999999999) 999999999))))) (fun H => gX dC dI dA q (if ex2 (!inb z1 0 3) (!inb yy (-999999999) 999999999) = 0 then (σ) else σ) H ∧ gO dC dI o (fun n => ex2 (!inb z1 0 3) (!inb yy (-999999999) 999999999) = 0 → n = bZ (inYr σ (z1.toNat) yy)) H) (kAO q o H0.size)) 2 12 (kAO q o H0.size) := by
  refine k_ofWH (cc := cL_isInYear) (maxL := 5) (ret := (some .int)) (hh := [(0, 18, 21, 19), (0, 18, 25, 21)]) (by decide) rfl ?_
  intro p e s m args below meth c s₁ B hml hv
  obtain ⟨rfl, hH, hMJ, hL⟩ := hv
  subst hH
  have hM := hMJ.1
  have hAN : ∀ a, kAO q o s.heap.size a → k 0 ≤ a := kAO_N hq hko hM.2.1.1
  have hS : va_S (kAO q o s.heap.size) s.heap s.heap [] := va_S.rf
  have hno : o < s.heap.size → ¬ kA q s.heap.size o := fun h z => z.elim (fun ⟨i, hi, e9⟩ => ho9 i hi e9.symm) (fun y => absurd h (Nat.not_lt.mpr y))
  obtain ⟨tb, tn, tm, htn, hfit, htm, hPx⟩ := id hG
  have hx := B.exec
  have hb := B.bytes
  have hr := B.returns
  have hts := atoms_spec (ws := ww_L_isInYear) B.pre
  have hown : s.vm.findClass RL = some m.cls := findClass_of_methodNamed B.named
  have hlocks := B.notSynchronized
  have hl := lv_entry ([.ref (q 0), .int (iZ z1), .int (iZ yy), .ref o]) (n := 5) (Nat.le_of_ble_eq_true rfl)
  rw [lg_entry_eq]
  generalize (lg_sl ([.ref (q 0), .int (iZ z1), .int (iZ yy), .ref o]) ++ List.replicate (5 - (lg_sl ([.ref (q 0), .int (iZ z1), .int (iZ yy), .ref o])).length) Slot.unset).toArray = ls at hl ⊢
  have hl : lv_has ls 5 [(0, .ref (q 0)), (1, .int (iZ z1)), (2, .int (iZ yy)), (3, .ref o)] := hl
  have hTab := vx_table (x := yL_isInYear) B (hts _ List.mem_cons_self)
  refine lv_aload_n hx hb dL_isInYear_0 rfl (lv_at hl 3 rfl) ?_
  refine lv_aload_n hx hb dL_isInYear_1 rfl (lv_at hl 0 rfl) ?_
  refine lv_iload_n hx hb dL_isInYear_2 rfl (lv_at hl 1 rfl) ?_
  refine lv_iload_n hx hb dL_isInYear_3 rfl (lv_at hl 2 rfl) ?_
  refine kcxc (vx_runV (As := [.int (iZ z1), .int (iZ yy)]) (rest := [.ref o]) ⟨hx, hb, hml, hown, hts⟩ (c_X1_isInYear l hst dC dI dA k q σ _ hG hOK hq z1 yy rz1 ryy) (cwV 2 hts (kg_V mw953 mw954 mw955 mw42 rfl mw956) rfl rfl rfl hdV_X1_isInYear ⟨Nat.le_of_ble_eq_true rfl, Nat.le_of_ble_eq_true rfl⟩) ⟨fun a U g mk q => ⟨q.1, q.2.1, kM_call q.2.2⟩, va_recv hM.1 hPx (ci := 4) (q0 := 0) rfl rfl, fun U hU hW => ⟨rfl, hU, kM_kept hM hS hAN hU hW⟩⟩ rfl rfl hl.1 rfl (lv_room (Nat.le_of_ble_eq_true rfl)) dL_isInYear_4 ⟨Nat.le_of_ble_eq_true rfl, Nat.le_of_ble_eq_true rfl⟩) hS (fun a _ h => Or.inl h) (fun a h => Or.inl h) (fun E ce q9 H1 locs hE hy9 hk9 hS hce hcv hcl => ?_) (fun H1 locs hG1 hE hy9 hk9 hS => ?_)
  · have hG9 : gX dC dI dA q σ H1 := gX_kept hG (fun i _ h => hk9 _ h)
    have hO8 := hO.kept (H1 := H1) (fun i p hp => hk9 _ (hO i p hp).lt)
    rcases hE with ⟨hE, rfl⟩ | ⟨hE, rfl⟩
    · refine vx_catch (own := RL) (name := "java/lang/IndexOutOfBoundsException") hown [] ⟨0, 18, 21, 19⟩ [⟨0, 18, 25, 21⟩] hTab (fun z h => absurd h List.not_mem_nil) (by decide) (by decide) (hts _ (List.mem_cons_of_mem _ mw604)) (va_Nw.use rfl hL.2.2.1) hce hcv hcl ?_
      refine lv_astore (lv' := [(4, .ref q9), (0, .ref (q 0)), (1, .int (iZ z1)), (2, .int (iZ yy)), (3, .ref o)]) hx hb dL_isInYear_21 hl (by decide) rfl (fun ls hl => ?_)
      refine lv_iconst (v := iZ 1) hx hb dL_isInYear_23 rfl ?_
      refine W.widen (k := 2) (n := 12) (Nat.le_of_ble_eq_true rfl) (Nat.le_of_ble_eq_true rfl) ?_
      exact W.iret (v := iZ 1) hx hb hr (fun t ht hW => ⟨⟨congrArg (fun z : Int => Outcome.returned (some (Value.int (iZ z)))) (show 1 = ex2 (!inb z1 0 3) (!inb yy (-999999999) 999999999) from hE.symm), by rw [ht]; exact ⟨gX_cast hG9 (if_neg (by rw [hE]; decide)).symm, sn, sv, fun z => absurd z (by rw [hE]; decide), hO8⟩⟩, hS.F ht⟩) hS.2.2 dL_isInYear_24 hlocks
    · refine vx_catch (own := RL) (name := "java/lang/IllegalArgumentException") hown [⟨0, 18, 21, 19⟩] ⟨0, 18, 25, 21⟩ [] hTab (fun z h => by cases List.mem_singleton.mp h; exact Or.inr ⟨by decide, "java/lang/IndexOutOfBoundsException", (hts _ (List.mem_cons_of_mem _ mw604)), hM.2.1.2.2.2.2.2.2.2.2.2.2.2⟩) (by decide) (by decide) (hts _ (List.mem_cons_of_mem _ mw605)) (va_Nw.use rfl hL.2.2.2) hce hcv hcl ?_
      refine lv_astore (lv' := [(4, .ref q9), (0, .ref (q 0)), (1, .int (iZ z1)), (2, .int (iZ yy)), (3, .ref o)]) hx hb dL_isInYear_25 hl (by decide) rfl (fun ls hl => ?_)
      refine lv_iconst (v := iZ 2) hx hb dL_isInYear_27 rfl ?_
      refine W.widen (k := 2) (n := 12) (Nat.le_of_ble_eq_true rfl) (Nat.le_of_ble_eq_true rfl) ?_
      exact W.iret (v := iZ 2) hx hb hr (fun t ht hW => ⟨⟨congrArg (fun z : Int => Outcome.returned (some (Value.int (iZ z)))) (show 2 = ex2 (!inb z1 0 3) (!inb yy (-999999999) 999999999) from hE.symm), by rw [ht]; exact ⟨gX_cast hG9 (if_neg (by rw [hE]; decide)).symm, sn, sv, fun z => absurd z (by rw [hE]; decide), hO8⟩⟩, hS.F ht⟩) hS.2.2 dL_isInYear_28 hlocks
  obtain ⟨tb1, tn1, tm1, htn1, hfit1, htm1, hP1⟩ := hG1
  have hPO := hP1.app (hO.kept (H1 := H1) (fun i p hp => hk9 _ (hO i p hp).lt (by match i, hp with | 0, hp => cases hp; exact hno (hO 0 _ rfl).lt | n + 1, hp => cases hp)))
  generalize H1 = H at hPO hS ⊢
  clear hk9 hy9
  refine kz_b2l hx hb dL_isInYear_7 dL_isInYear_10 dL_isInYear_11 dL_isInYear_14 ?_
  refine va_putN (D := (dC, dI)) (ci := 5) (v := .long (lZ (bZ (inYr σ (z1.toNat) yy)))) (ty := .long) (C := RX2) (T := TX2) (N := 2) hx hb hts (fun w h => List.mem_cons_of_mem _ (gF_1_in h)) tyX2 tyX2_ok nmX2 hown hM.1 hPO (kXO_D hq ho9) hS 9 rfl rfl 0 (by decide) (va_Nw.use rfl hL.1) (fun _ h9 => h9) rfl (by decide +kernel) rfl rfl (Nat.le_of_ble_eq_true rfl) dL_isInYear_15 (fun H locs hPO hD hS => ?_)
  refine lv_goto (tgt := 29) hx hb dL_isInYear_18 (by decide) ?_
  refine lv_iconst (v := iZ 0) hx hb dL_isInYear_29 rfl ?_
  refine W.widen (k := 2) (n := 12) (Nat.le_of_ble_eq_true rfl) (Nat.le_of_ble_eq_true rfl) ?_
  exact W.iret (v := iZ 0) hx hb hr (fun t ht hW => ⟨⟨congrArg (fun z : Int => Outcome.returned (some (Value.int (iZ z)))) (show 0 = ex2 (!inb z1 0 3) (!inb yy (-999999999) 999999999) from hE.symm), by rw [ht]; exact ⟨gX_cast ⟨tb1, tn1, tm1, htn1, hfit1, htm1, va_Pl (a := kX q dA (σ) tb1 (nI tn1) tm1) hPO⟩ (if_pos hE).symm, _, _, fun _ => rfl, va_Pr (a := kX q dA (σ) tb1 (nI tn1) tm1) hPO⟩⟩, hS.F ht⟩) hS.2.2 dL_isInYear_30 hlocks

abbrev ww_L_feastOrder : List Cond := .codeWith yL_feastOrder cL_feastOrder 6 (some .int) [(0, 13, 16, 19), (0, 13, 20, 21)] :: gT
set_option maxHeartbeats 4000000 in
set_option maxRecDepth 100000 in
theorem c_L_feastOrder (l : Launch) (hst : l.stackTraces = false) (dC : Nat → ClassId) (dI : Nat → Nat → Nat) (dA : Nat → ClassId) (k : Nat → Nat) (q : Nat → Nat) (σ : Nat → Nat → Int) (H0 : Heap) (hG : gX dC dI dA q σ H0) (hOK : kOK σ) (hq : kQI q k) (o : Nat) (sn : Int) (sv : Value) (hO : va_P (dC, dI) vwCl [(o, .inr (5, [.long (lZ sn), sv]))] H0) (hko : k 0 ≤ o) (ho9 : ∀ i : Nat, i < 9 → q i ≠ o) (z1 : Int) (z2 : Int) (w0 : Int) (rz1 : -2147483648 ≤ z1 ∧ z1 < 2147483648) (rz2 : -2147483648 ≤ z2 ∧ z2 < 2147483648) (rw0 : -2147483648 ≤ w0 ∧ w0 < 2147483648) : Met l yL_feastOrder ww_L_feastOrder ({ frames := 10, cells := 3, slots := 18, locals := 345 }) (va_Pc [.ref (q 0), .int (iZ z1), .int (iZ z2), .int (iZ w0), .ref o] (fun U => U.heap = H0 ∧ kMJ dC dI dA k U ∧ kL U)) (kQ2 (some (.int (iZ (ex2 (!inb z1 0 3 || !inb z2 0 3) (!inb w0 0 2))))) (fun H => gX dC dI dA q (if ex2 (!inb z1 0 3 || !inb z2 0 3) (!inb w0 0 2) = 0 then (σ) else σ) H ∧ gO dC dI o (fun n => ex2 (!inb z1 0 3 || !inb z2 0 3) (!inb w0 0 2) = 0 → n = w32 (ordT (32 * σ 3 (z1.toNat) + σ 4 (z1.toNat)) (32 * σ 3 (z2.toNat) + σ 4 (z2.toNat)) w0)) H) (kAO q o H0.size)) 3 18 (kAO q o H0.size) := by
  refine k_ofWH (cc := cL_feastOrder) (maxL := 6) (ret := (some .int)) (hh := [(0, 13, 16, 19), (0, 13, 20, 21)]) (by decide) rfl ?_
  intro p e s m args below meth c s₁ B hml hv
  obtain ⟨rfl, hH, hMJ, hL⟩ := hv
  subst hH
  have hM := hMJ.1
  have hAN : ∀ a, kAO q o s.heap.size a → k 0 ≤ a := kAO_N hq hko hM.2.1.1
  have hS : va_S (kAO q o s.heap.size) s.heap s.heap [] := va_S.rf
  have hno : o < s.heap.size → ¬ kA q s.heap.size o := fun h z => z.elim (fun ⟨i, hi, e9⟩ => ho9 i hi e9.symm) (fun y => absurd h (Nat.not_lt.mpr y))
  obtain ⟨tb, tn, tm, htn, hfit, htm, hPx⟩ := id hG
  have hx := B.exec
  have hb := B.bytes
  have hr := B.returns
  have hts := atoms_spec (ws := ww_L_feastOrder) B.pre
  have hown : s.vm.findClass RL = some m.cls := findClass_of_methodNamed B.named
  have hlocks := B.notSynchronized
  have hl := lv_entry ([.ref (q 0), .int (iZ z1), .int (iZ z2), .int (iZ w0), .ref o]) (n := 6) (Nat.le_of_ble_eq_true rfl)
  rw [lg_entry_eq]
  generalize (lg_sl ([.ref (q 0), .int (iZ z1), .int (iZ z2), .int (iZ w0), .ref o]) ++ List.replicate (6 - (lg_sl ([.ref (q 0), .int (iZ z1), .int (iZ z2), .int (iZ w0), .ref o])).length) Slot.unset).toArray = ls at hl ⊢
  have hl : lv_has ls 6 [(0, .ref (q 0)), (1, .int (iZ z1)), (2, .int (iZ z2)), (3, .int (iZ w0)), (4, .ref o)] := hl
  have hTab := vx_table (x := yL_feastOrder) B (hts _ List.mem_cons_self)
  refine lv_aload hx hb dL_feastOrder_0 (lv_at hl 4 rfl) ?_
  refine lv_aload_n hx hb dL_feastOrder_2 rfl (lv_at hl 0 rfl) ?_
  refine lv_iload_n hx hb dL_feastOrder_3 rfl (lv_at hl 1 rfl) ?_
  refine lv_iload_n hx hb dL_feastOrder_4 rfl (lv_at hl 2 rfl) ?_
  refine lv_iload_n hx hb dL_feastOrder_5 rfl (lv_at hl 3 rfl) ?_
  refine kcxc (vx_runV (As := [.int (iZ z1), .int (iZ z2), .int (iZ w0)]) (rest := [.ref o]) ⟨hx, hb, hml, hown, hts⟩ (c_X1_feastOrder l hst dC dI dA k q σ _ hG hOK hq z1 z2 w0 rz1 rz2 rw0) (cwV 3 hts (kg_V mw960 mw961 mw962 mw42 rfl mw963) rfl rfl rfl hdV_X1_feastOrder ⟨Nat.le_of_ble_eq_true rfl, Nat.le_of_ble_eq_true rfl⟩) ⟨fun a U g mk q => ⟨q.1, q.2.1, kM_call q.2.2⟩, va_recv hM.1 hPx (ci := 4) (q0 := 0) rfl rfl, fun U hU hW => ⟨rfl, hU, kM_kept hM hS hAN hU hW⟩⟩ rfl rfl hl.1 rfl (lv_room (Nat.le_of_ble_eq_true rfl)) dL_feastOrder_6 ⟨Nat.le_of_ble_eq_true rfl, Nat.le_of_ble_eq_true rfl⟩) hS (fun a _ h => Or.inl h) (fun a h => Or.inl h) (fun E ce q9 H1 locs hE hy9 hk9 hS hce hcv hcl => ?_) (fun H1 locs hG1 hE hy9 hk9 hS => ?_)
  · have hG9 : gX dC dI dA q σ H1 := gX_kept hG (fun i _ h => hk9 _ h)
    have hO8 := hO.kept (H1 := H1) (fun i p hp => hk9 _ (hO i p hp).lt)
    rcases hE with ⟨hE, rfl⟩ | ⟨hE, rfl⟩
    · refine vx_catch (own := RL) (name := "java/lang/IndexOutOfBoundsException") hown [] ⟨0, 13, 16, 19⟩ [⟨0, 13, 20, 21⟩] hTab (fun z h => absurd h List.not_mem_nil) (by decide) (by decide) (hts _ (List.mem_cons_of_mem _ mw604)) (va_Nw.use rfl hL.2.2.1) hce hcv hcl ?_
      refine lv_astore (lv' := [(5, .ref q9), (0, .ref (q 0)), (1, .int (iZ z1)), (2, .int (iZ z2)), (3, .int (iZ w0)), (4, .ref o)]) hx hb dL_feastOrder_16 hl (by decide) rfl (fun ls hl => ?_)
      refine lv_iconst (v := iZ 1) hx hb dL_feastOrder_18 rfl ?_
      refine W.widen (k := 3) (n := 18) (Nat.le_of_ble_eq_true rfl) (Nat.le_of_ble_eq_true rfl) ?_
      exact W.iret (v := iZ 1) hx hb hr (fun t ht hW => ⟨⟨congrArg (fun z : Int => Outcome.returned (some (Value.int (iZ z)))) (show 1 = ex2 (!inb z1 0 3 || !inb z2 0 3) (!inb w0 0 2) from hE.symm), by rw [ht]; exact ⟨gX_cast hG9 (if_neg (by rw [hE]; decide)).symm, sn, sv, fun z => absurd z (by rw [hE]; decide), hO8⟩⟩, hS.F ht⟩) hS.2.2 dL_feastOrder_19 hlocks
    · refine vx_catch (own := RL) (name := "java/lang/IllegalArgumentException") hown [⟨0, 13, 16, 19⟩] ⟨0, 13, 20, 21⟩ [] hTab (fun z h => by cases List.mem_singleton.mp h; exact Or.inr ⟨by decide, "java/lang/IndexOutOfBoundsException", (hts _ (List.mem_cons_of_mem _ mw604)), hM.2.1.2.2.2.2.2.2.2.2.2.2.2⟩) (by decide) (by decide) (hts _ (List.mem_cons_of_mem _ mw605)) (va_Nw.use rfl hL.2.2.2) hce hcv hcl ?_
      refine lv_astore (lv' := [(5, .ref q9), (0, .ref (q 0)), (1, .int (iZ z1)), (2, .int (iZ z2)), (3, .int (iZ w0)), (4, .ref o)]) hx hb dL_feastOrder_20 hl (by decide) rfl (fun ls hl => ?_)
      refine lv_iconst (v := iZ 2) hx hb dL_feastOrder_22 rfl ?_
      refine W.widen (k := 3) (n := 18) (Nat.le_of_ble_eq_true rfl) (Nat.le_of_ble_eq_true rfl) ?_
      exact W.iret (v := iZ 2) hx hb hr (fun t ht hW => ⟨⟨congrArg (fun z : Int => Outcome.returned (some (Value.int (iZ z)))) (show 2 = ex2 (!inb z1 0 3 || !inb z2 0 3) (!inb w0 0 2) from hE.symm), by rw [ht]; exact ⟨gX_cast hG9 (if_neg (by rw [hE]; decide)).symm, sn, sv, fun z => absurd z (by rw [hE]; decide), hO8⟩⟩, hS.F ht⟩) hS.2.2 dL_feastOrder_23 hlocks
  obtain ⟨tb1, tn1, tm1, htn1, hfit1, htm1, hP1⟩ := hG1
  have hPO := hP1.app (hO.kept (H1 := H1) (fun i p hp => hk9 _ (hO i p hp).lt (by match i, hp with | 0, hp => cases hp; exact hno (hO 0 _ rfl).lt | n + 1, hp => cases hp)))
  generalize H1 = H at hPO hS ⊢
  clear hk9 hy9
  refine kz_w32 ?_
  refine kz_i2l hx hb (w32_rng _) dL_feastOrder_9 ?_
  refine va_putN (D := (dC, dI)) (ci := 5) (v := .long (lZ ((w32 (ordT (32 * σ 3 (z1.toNat) + σ 4 (z1.toNat)) (32 * σ 3 (z2.toNat) + σ 4 (z2.toNat)) w0))))) (ty := .long) (C := RX2) (T := TX2) (N := 2) hx hb hts (fun w h => List.mem_cons_of_mem _ (gF_1_in h)) tyX2 tyX2_ok nmX2 hown hM.1 hPO (kXO_D hq ho9) hS 9 rfl rfl 0 (by decide) (va_Nw.use rfl hL.1) (fun _ h9 => h9) rfl (by decide +kernel) rfl rfl (Nat.le_of_ble_eq_true rfl) dL_feastOrder_10 (fun H locs hPO hD hS => ?_)
  refine lv_goto (tgt := 24) hx hb dL_feastOrder_13 (by decide) ?_
  refine lv_iconst (v := iZ 0) hx hb dL_feastOrder_24 rfl ?_
  refine W.widen (k := 3) (n := 18) (Nat.le_of_ble_eq_true rfl) (Nat.le_of_ble_eq_true rfl) ?_
  exact W.iret (v := iZ 0) hx hb hr (fun t ht hW => ⟨⟨congrArg (fun z : Int => Outcome.returned (some (Value.int (iZ z)))) (show 0 = ex2 (!inb z1 0 3 || !inb z2 0 3) (!inb w0 0 2) from hE.symm), by rw [ht]; exact ⟨gX_cast ⟨tb1, tn1, tm1, htn1, hfit1, htm1, va_Pl (a := kX q dA (σ) tb1 (nI tn1) tm1) hPO⟩ (if_pos hE).symm, _, _, fun _ => rfl, va_Pr (a := kX q dA (σ) tb1 (nI tn1) tm1) hPO⟩⟩, hS.F ht⟩) hS.2.2 dL_feastOrder_25 hlocks

abbrev ww_L_isFeast : List Cond := .codeWith yL_isFeast cL_isFeast 6 (some .int) [(0, 20, 23, 19), (0, 20, 27, 21)] :: gT
set_option maxHeartbeats 4000000 in
set_option maxRecDepth 100000 in
theorem c_L_isFeast (l : Launch) (hst : l.stackTraces = false) (dC : Nat → ClassId) (dI : Nat → Nat → Nat) (dA : Nat → ClassId) (k : Nat → Nat) (q : Nat → Nat) (σ : Nat → Nat → Int) (H0 : Heap) (hG : gX dC dI dA q σ H0) (hOK : kOK σ) (hq : kQI q k) (o : Nat) (sn : Int) (sv : Value) (hO : va_P (dC, dI) vwCl [(o, .inr (5, [.long (lZ sn), sv]))] H0) (hko : k 0 ≤ o) (ho9 : ∀ i : Nat, i < 9 → q i ≠ o) (z1 : Int) (w0 : Int) (z2 : Int) (rz1 : -2147483648 ≤ z1 ∧ z1 < 2147483648) (rw0 : -2147483648 ≤ w0 ∧ w0 < 2147483648) (rz2 : -2147483648 ≤ z2 ∧ z2 < 2147483648) : Met l yL_isFeast ww_L_isFeast ({ frames := 10, cells := 3, slots := 18, locals := 345 }) (va_Pc [.ref (q 0), .int (iZ z1), .int (iZ w0), .int (iZ z2), .ref o] (fun U => U.heap = H0 ∧ kMJ dC dI dA k U ∧ kL U)) (kQ2 (some (.int (iZ (ex2 (!inb z1 0 3 || !inb z2 0 3) (!inb w0 0 4))))) (fun H => gX dC dI dA q (if ex2 (!inb z1 0 3 || !inb z2 0 3) (!inb w0 0 4) = 0 then (σ) else σ) H ∧ gO dC dI o (fun n => ex2 (!inb z1 0 3 || !inb z2 0 3) (!inb w0 0 4) = 0 → n = bZ (decide (w0 = 2 ∧ σ 3 (z1.toNat) = σ 3 (z2.toNat) ∧ σ 4 (z1.toNat) = σ 4 (z2.toNat)))) H) (kAO q o H0.size)) 3 18 (kAO q o H0.size) := by
  refine k_ofWH (cc := cL_isFeast) (maxL := 6) (ret := (some .int)) (hh := [(0, 20, 23, 19), (0, 20, 27, 21)]) (by decide) rfl ?_
  intro p e s m args below meth c s₁ B hml hv
  obtain ⟨rfl, hH, hMJ, hL⟩ := hv
  subst hH
  have hM := hMJ.1
  have hAN : ∀ a, kAO q o s.heap.size a → k 0 ≤ a := kAO_N hq hko hM.2.1.1
  have hS : va_S (kAO q o s.heap.size) s.heap s.heap [] := va_S.rf
  have hno : o < s.heap.size → ¬ kA q s.heap.size o := fun h z => z.elim (fun ⟨i, hi, e9⟩ => ho9 i hi e9.symm) (fun y => absurd h (Nat.not_lt.mpr y))
  obtain ⟨tb, tn, tm, htn, hfit, htm, hPx⟩ := id hG
  have hx := B.exec
  have hb := B.bytes
  have hr := B.returns
  have hts := atoms_spec (ws := ww_L_isFeast) B.pre
  have hown : s.vm.findClass RL = some m.cls := findClass_of_methodNamed B.named
  have hlocks := B.notSynchronized
  have hl := lv_entry ([.ref (q 0), .int (iZ z1), .int (iZ w0), .int (iZ z2), .ref o]) (n := 6) (Nat.le_of_ble_eq_true rfl)
  rw [lg_entry_eq]
  generalize (lg_sl ([.ref (q 0), .int (iZ z1), .int (iZ w0), .int (iZ z2), .ref o]) ++ List.replicate (6 - (lg_sl ([.ref (q 0), .int (iZ z1), .int (iZ w0), .int (iZ z2), .ref o])).length) Slot.unset).toArray = ls at hl ⊢
  have hl : lv_has ls 6 [(0, .ref (q 0)), (1, .int (iZ z1)), (2, .int (iZ w0)), (3, .int (iZ z2)), (4, .ref o)] := hl
  have hTab := vx_table (x := yL_isFeast) B (hts _ List.mem_cons_self)
  refine lv_aload hx hb dL_isFeast_0 (lv_at hl 4 rfl) ?_
  refine lv_aload_n hx hb dL_isFeast_2 rfl (lv_at hl 0 rfl) ?_
  refine lv_iload_n hx hb dL_isFeast_3 rfl (lv_at hl 1 rfl) ?_
  refine lv_iload_n hx hb dL_isFeast_4 rfl (lv_at hl 2 rfl) ?_
  refine lv_iload_n hx hb dL_isFeast_5 rfl (lv_at hl 3 rfl) ?_
  refine kcxc (vx_runV (As := [.int (iZ z1), .int (iZ w0), .int (iZ z2)]) (rest := [.ref o]) ⟨hx, hb, hml, hown, hts⟩ (c_X1_isFeast l hst dC dI dA k q σ _ hG hOK hq z1 w0 z2 rz1 rw0 rz2) (cwV 3 hts (kg_V mw967 mw968 mw969 mw42 rfl mw970) rfl rfl rfl hdV_X1_isFeast ⟨Nat.le_of_ble_eq_true rfl, Nat.le_of_ble_eq_true rfl⟩) ⟨fun a U g mk q => ⟨q.1, q.2.1, kM_call q.2.2⟩, va_recv hM.1 hPx (ci := 4) (q0 := 0) rfl rfl, fun U hU hW => ⟨rfl, hU, kM_kept hM hS hAN hU hW⟩⟩ rfl rfl hl.1 rfl (lv_room (Nat.le_of_ble_eq_true rfl)) dL_isFeast_6 ⟨Nat.le_of_ble_eq_true rfl, Nat.le_of_ble_eq_true rfl⟩) hS (fun a _ h => Or.inl h) (fun a h => Or.inl h) (fun E ce q9 H1 locs hE hy9 hk9 hS hce hcv hcl => ?_) (fun H1 locs hG1 hE hy9 hk9 hS => ?_)
  · have hG9 : gX dC dI dA q σ H1 := gX_kept hG (fun i _ h => hk9 _ h)
    have hO8 := hO.kept (H1 := H1) (fun i p hp => hk9 _ (hO i p hp).lt)
    rcases hE with ⟨hE, rfl⟩ | ⟨hE, rfl⟩
    · refine vx_catch (own := RL) (name := "java/lang/IndexOutOfBoundsException") hown [] ⟨0, 20, 23, 19⟩ [⟨0, 20, 27, 21⟩] hTab (fun z h => absurd h List.not_mem_nil) (by decide) (by decide) (hts _ (List.mem_cons_of_mem _ mw604)) (va_Nw.use rfl hL.2.2.1) hce hcv hcl ?_
      refine lv_astore (lv' := [(5, .ref q9), (0, .ref (q 0)), (1, .int (iZ z1)), (2, .int (iZ w0)), (3, .int (iZ z2)), (4, .ref o)]) hx hb dL_isFeast_23 hl (by decide) rfl (fun ls hl => ?_)
      refine lv_iconst (v := iZ 1) hx hb dL_isFeast_25 rfl ?_
      refine W.widen (k := 3) (n := 18) (Nat.le_of_ble_eq_true rfl) (Nat.le_of_ble_eq_true rfl) ?_
      exact W.iret (v := iZ 1) hx hb hr (fun t ht hW => ⟨⟨congrArg (fun z : Int => Outcome.returned (some (Value.int (iZ z)))) (show 1 = ex2 (!inb z1 0 3 || !inb z2 0 3) (!inb w0 0 4) from hE.symm), by rw [ht]; exact ⟨gX_cast hG9 (if_neg (by rw [hE]; decide)).symm, sn, sv, fun z => absurd z (by rw [hE]; decide), hO8⟩⟩, hS.F ht⟩) hS.2.2 dL_isFeast_26 hlocks
    · refine vx_catch (own := RL) (name := "java/lang/IllegalArgumentException") hown [⟨0, 20, 23, 19⟩] ⟨0, 20, 27, 21⟩ [] hTab (fun z h => by cases List.mem_singleton.mp h; exact Or.inr ⟨by decide, "java/lang/IndexOutOfBoundsException", (hts _ (List.mem_cons_of_mem _ mw604)), hM.2.1.2.2.2.2.2.2.2.2.2.2.2⟩) (by decide) (by decide) (hts _ (List.mem_cons_of_mem _ mw605)) (va_Nw.use rfl hL.2.2.2) hce hcv hcl ?_
      refine lv_astore (lv' := [(5, .ref q9), (0, .ref (q 0)), (1, .int (iZ z1)), (2, .int (iZ w0)), (3, .int (iZ z2)), (4, .ref o)]) hx hb dL_isFeast_27 hl (by decide) rfl (fun ls hl => ?_)
      refine lv_iconst (v := iZ 2) hx hb dL_isFeast_29 rfl ?_
      refine W.widen (k := 3) (n := 18) (Nat.le_of_ble_eq_true rfl) (Nat.le_of_ble_eq_true rfl) ?_
      exact W.iret (v := iZ 2) hx hb hr (fun t ht hW => ⟨⟨congrArg (fun z : Int => Outcome.returned (some (Value.int (iZ z)))) (show 2 = ex2 (!inb z1 0 3 || !inb z2 0 3) (!inb w0 0 4) from hE.symm), by rw [ht]; exact ⟨gX_cast hG9 (if_neg (by rw [hE]; decide)).symm, sn, sv, fun z => absurd z (by rw [hE]; decide), hO8⟩⟩, hS.F ht⟩) hS.2.2 dL_isFeast_30 hlocks
  obtain ⟨tb1, tn1, tm1, htn1, hfit1, htm1, hP1⟩ := hG1
  have hPO := hP1.app (hO.kept (H1 := H1) (fun i p hp => hk9 _ (hO i p hp).lt (by match i, hp with | 0, hp => cases hp; exact hno (hO 0 _ rfl).lt | n + 1, hp => cases hp)))
  generalize H1 = H at hPO hS ⊢
  clear hk9 hy9
  refine kz_b2l hx hb dL_isFeast_9 dL_isFeast_12 dL_isFeast_13 dL_isFeast_16 ?_
  refine va_putN (D := (dC, dI)) (ci := 5) (v := .long (lZ (bZ (decide (w0 = 2 ∧ σ 3 (z1.toNat) = σ 3 (z2.toNat) ∧ σ 4 (z1.toNat) = σ 4 (z2.toNat)))))) (ty := .long) (C := RX2) (T := TX2) (N := 2) hx hb hts (fun w h => List.mem_cons_of_mem _ (gF_1_in h)) tyX2 tyX2_ok nmX2 hown hM.1 hPO (kXO_D hq ho9) hS 9 rfl rfl 0 (by decide) (va_Nw.use rfl hL.1) (fun _ h9 => h9) rfl (by decide +kernel) rfl rfl (Nat.le_of_ble_eq_true rfl) dL_isFeast_17 (fun H locs hPO hD hS => ?_)
  refine lv_goto (tgt := 31) hx hb dL_isFeast_20 (by decide) ?_
  refine lv_iconst (v := iZ 0) hx hb dL_isFeast_31 rfl ?_
  refine W.widen (k := 3) (n := 18) (Nat.le_of_ble_eq_true rfl) (Nat.le_of_ble_eq_true rfl) ?_
  exact W.iret (v := iZ 0) hx hb hr (fun t ht hW => ⟨⟨congrArg (fun z : Int => Outcome.returned (some (Value.int (iZ z)))) (show 0 = ex2 (!inb z1 0 3 || !inb z2 0 3) (!inb w0 0 4) from hE.symm), by rw [ht]; exact ⟨gX_cast ⟨tb1, tn1, tm1, htn1, hfit1, htm1, va_Pl (a := kX q dA (σ) tb1 (nI tn1) tm1) hPO⟩ (if_pos hE).symm, _, _, fun _ => rfl, va_Pr (a := kX q dA (σ) tb1 (nI tn1) tm1) hPO⟩⟩, hS.F ht⟩) hS.2.2 dL_isFeast_32 hlocks

abbrev ww_L_ofDay : List Cond := .codeWith yL_ofDay cL_ofDay 5 (some .int) [(0, 11, 14, 19), (0, 11, 18, 21)] :: gT
set_option maxHeartbeats 4000000 in
set_option maxRecDepth 100000 in
theorem c_L_ofDay (l : Launch) (hst : l.stackTraces = false) (dC : Nat → ClassId) (dI : Nat → Nat → Nat) (dA : Nat → ClassId) (k : Nat → Nat) (q : Nat → Nat) (σ : Nat → Nat → Int) (H0 : Heap) (hG : gX dC dI dA q σ H0) (hOK : kOK σ) (hq : kQI q k) (o : Nat) (sn : Int) (sv : Value) (hO : va_P (dC, dI) vwCl [(o, .inr (5, [.long (lZ sn), sv]))] H0) (hko : k 0 ≤ o) (ho9 : ∀ i : Nat, i < 9 → q i ≠ o) (z1 : Int) (w0 : Int) (rz1 : -2147483648 ≤ z1 ∧ z1 < 2147483648) (rw0 : -2147483648 ≤ w0 ∧ w0 < 2147483648) : Met l yL_ofDay ww_L_ofDay ({ frames := 10, cells := 2, slots := 12, locals := 346 }) (va_Pc [.ref (q 0), .int (iZ z1), .int (iZ w0), .ref o] (fun U => U.heap = H0 ∧ kMJ dC dI dA k U ∧ kL U)) (kQ2 (some (.int (iZ (ex2 (!inb z1 0 3) (!inb w0 0 5))))) (fun H => gX dC dI dA q (if ex2 (!inb z1 0 3) (!inb w0 0 5) = 0 then (σ) else σ) H ∧ gO dC dI o (fun n => ex2 (!inb z1 0 3) (!inb w0 0 5) = 0 → n = w32 (ofD σ (z1.toNat) w0)) H) (kAO q o H0.size)) 2 12 (kAO q o H0.size) := by
  refine k_ofWH (cc := cL_ofDay) (maxL := 5) (ret := (some .int)) (hh := [(0, 11, 14, 19), (0, 11, 18, 21)]) (by decide) rfl ?_
  intro p e s m args below meth c s₁ B hml hv
  obtain ⟨rfl, hH, hMJ, hL⟩ := hv
  subst hH
  have hM := hMJ.1
  have hAN : ∀ a, kAO q o s.heap.size a → k 0 ≤ a := kAO_N hq hko hM.2.1.1
  have hS : va_S (kAO q o s.heap.size) s.heap s.heap [] := va_S.rf
  have hno : o < s.heap.size → ¬ kA q s.heap.size o := fun h z => z.elim (fun ⟨i, hi, e9⟩ => ho9 i hi e9.symm) (fun y => absurd h (Nat.not_lt.mpr y))
  obtain ⟨tb, tn, tm, htn, hfit, htm, hPx⟩ := id hG
  have hx := B.exec
  have hb := B.bytes
  have hr := B.returns
  have hts := atoms_spec (ws := ww_L_ofDay) B.pre
  have hown : s.vm.findClass RL = some m.cls := findClass_of_methodNamed B.named
  have hlocks := B.notSynchronized
  have hl := lv_entry ([.ref (q 0), .int (iZ z1), .int (iZ w0), .ref o]) (n := 5) (Nat.le_of_ble_eq_true rfl)
  rw [lg_entry_eq]
  generalize (lg_sl ([.ref (q 0), .int (iZ z1), .int (iZ w0), .ref o]) ++ List.replicate (5 - (lg_sl ([.ref (q 0), .int (iZ z1), .int (iZ w0), .ref o])).length) Slot.unset).toArray = ls at hl ⊢
  have hl : lv_has ls 5 [(0, .ref (q 0)), (1, .int (iZ z1)), (2, .int (iZ w0)), (3, .ref o)] := hl
  have hTab := vx_table (x := yL_ofDay) B (hts _ List.mem_cons_self)
  refine lv_aload_n hx hb dL_ofDay_0 rfl (lv_at hl 3 rfl) ?_
  refine lv_aload_n hx hb dL_ofDay_1 rfl (lv_at hl 0 rfl) ?_
  refine lv_iload_n hx hb dL_ofDay_2 rfl (lv_at hl 1 rfl) ?_
  refine lv_iload_n hx hb dL_ofDay_3 rfl (lv_at hl 2 rfl) ?_
  refine kcxc (vx_runV (As := [.int (iZ z1), .int (iZ w0)]) (rest := [.ref o]) ⟨hx, hb, hml, hown, hts⟩ (c_X1_ofDay l hst dC dI dA k q σ _ hG hOK hq z1 w0 rz1 rw0) (cwV 2 hts (kg_V mw974 mw546 mw547 mw42 rfl mw548) rfl rfl rfl hdV_X1_ofDay ⟨Nat.le_of_ble_eq_true rfl, Nat.le_of_ble_eq_true rfl⟩) ⟨fun a U g mk q => ⟨q.1, q.2.1, kM_call q.2.2⟩, va_recv hM.1 hPx (ci := 4) (q0 := 0) rfl rfl, fun U hU hW => ⟨rfl, hU, kM_kept hM hS hAN hU hW⟩⟩ rfl rfl hl.1 rfl (lv_room (Nat.le_of_ble_eq_true rfl)) dL_ofDay_4 ⟨Nat.le_of_ble_eq_true rfl, Nat.le_of_ble_eq_true rfl⟩) hS (fun a _ h => Or.inl h) (fun a h => Or.inl h) (fun E ce q9 H1 locs hE hy9 hk9 hS hce hcv hcl => ?_) (fun H1 locs hG1 hE hy9 hk9 hS => ?_)
  · have hG9 : gX dC dI dA q σ H1 := gX_kept hG (fun i _ h => hk9 _ h)
    have hO8 := hO.kept (H1 := H1) (fun i p hp => hk9 _ (hO i p hp).lt)
    rcases hE with ⟨hE, rfl⟩ | ⟨hE, rfl⟩
    · refine vx_catch (own := RL) (name := "java/lang/IndexOutOfBoundsException") hown [] ⟨0, 11, 14, 19⟩ [⟨0, 11, 18, 21⟩] hTab (fun z h => absurd h List.not_mem_nil) (by decide) (by decide) (hts _ (List.mem_cons_of_mem _ mw604)) (va_Nw.use rfl hL.2.2.1) hce hcv hcl ?_
      refine lv_astore (lv' := [(4, .ref q9), (0, .ref (q 0)), (1, .int (iZ z1)), (2, .int (iZ w0)), (3, .ref o)]) hx hb dL_ofDay_14 hl (by decide) rfl (fun ls hl => ?_)
      refine lv_iconst (v := iZ 1) hx hb dL_ofDay_16 rfl ?_
      refine W.widen (k := 2) (n := 12) (Nat.le_of_ble_eq_true rfl) (Nat.le_of_ble_eq_true rfl) ?_
      exact W.iret (v := iZ 1) hx hb hr (fun t ht hW => ⟨⟨congrArg (fun z : Int => Outcome.returned (some (Value.int (iZ z)))) (show 1 = ex2 (!inb z1 0 3) (!inb w0 0 5) from hE.symm), by rw [ht]; exact ⟨gX_cast hG9 (if_neg (by rw [hE]; decide)).symm, sn, sv, fun z => absurd z (by rw [hE]; decide), hO8⟩⟩, hS.F ht⟩) hS.2.2 dL_ofDay_17 hlocks
    · refine vx_catch (own := RL) (name := "java/lang/IllegalArgumentException") hown [⟨0, 11, 14, 19⟩] ⟨0, 11, 18, 21⟩ [] hTab (fun z h => by cases List.mem_singleton.mp h; exact Or.inr ⟨by decide, "java/lang/IndexOutOfBoundsException", (hts _ (List.mem_cons_of_mem _ mw604)), hM.2.1.2.2.2.2.2.2.2.2.2.2.2⟩) (by decide) (by decide) (hts _ (List.mem_cons_of_mem _ mw605)) (va_Nw.use rfl hL.2.2.2) hce hcv hcl ?_
      refine lv_astore (lv' := [(4, .ref q9), (0, .ref (q 0)), (1, .int (iZ z1)), (2, .int (iZ w0)), (3, .ref o)]) hx hb dL_ofDay_18 hl (by decide) rfl (fun ls hl => ?_)
      refine lv_iconst (v := iZ 2) hx hb dL_ofDay_20 rfl ?_
      refine W.widen (k := 2) (n := 12) (Nat.le_of_ble_eq_true rfl) (Nat.le_of_ble_eq_true rfl) ?_
      exact W.iret (v := iZ 2) hx hb hr (fun t ht hW => ⟨⟨congrArg (fun z : Int => Outcome.returned (some (Value.int (iZ z)))) (show 2 = ex2 (!inb z1 0 3) (!inb w0 0 5) from hE.symm), by rw [ht]; exact ⟨gX_cast hG9 (if_neg (by rw [hE]; decide)).symm, sn, sv, fun z => absurd z (by rw [hE]; decide), hO8⟩⟩, hS.F ht⟩) hS.2.2 dL_ofDay_21 hlocks
  obtain ⟨tb1, tn1, tm1, htn1, hfit1, htm1, hP1⟩ := hG1
  have hPO := hP1.app (hO.kept (H1 := H1) (fun i p hp => hk9 _ (hO i p hp).lt (by match i, hp with | 0, hp => cases hp; exact hno (hO 0 _ rfl).lt | n + 1, hp => cases hp)))
  generalize H1 = H at hPO hS ⊢
  clear hk9 hy9
  refine kz_w32 ?_
  refine kz_i2l hx hb (w32_rng _) dL_ofDay_7 ?_
  refine va_putN (D := (dC, dI)) (ci := 5) (v := .long (lZ ((w32 (ofD σ (z1.toNat) w0))))) (ty := .long) (C := RX2) (T := TX2) (N := 2) hx hb hts (fun w h => List.mem_cons_of_mem _ (gF_1_in h)) tyX2 tyX2_ok nmX2 hown hM.1 hPO (kXO_D hq ho9) hS 9 rfl rfl 0 (by decide) (va_Nw.use rfl hL.1) (fun _ h9 => h9) rfl (by decide +kernel) rfl rfl (Nat.le_of_ble_eq_true rfl) dL_ofDay_8 (fun H locs hPO hD hS => ?_)
  refine lv_goto (tgt := 22) hx hb dL_ofDay_11 (by decide) ?_
  refine lv_iconst (v := iZ 0) hx hb dL_ofDay_22 rfl ?_
  refine W.widen (k := 2) (n := 12) (Nat.le_of_ble_eq_true rfl) (Nat.le_of_ble_eq_true rfl) ?_
  exact W.iret (v := iZ 0) hx hb hr (fun t ht hW => ⟨⟨congrArg (fun z : Int => Outcome.returned (some (Value.int (iZ z)))) (show 0 = ex2 (!inb z1 0 3) (!inb w0 0 5) from hE.symm), by rw [ht]; exact ⟨gX_cast ⟨tb1, tn1, tm1, htn1, hfit1, htm1, va_Pl (a := kX q dA (σ) tb1 (nI tn1) tm1) hPO⟩ (if_pos hE).symm, _, _, fun _ => rfl, va_Pr (a := kX q dA (σ) tb1 (nI tn1) tm1) hPO⟩⟩, hS.F ht⟩) hS.2.2 dL_ofDay_23 hlocks

abbrev ww_L_number : List Cond := .codeWith yL_number cL_number 4 (some .int) [(0, 9, 12, 19)] :: gT
set_option maxHeartbeats 4000000 in
set_option maxRecDepth 100000 in
theorem c_L_number (l : Launch) (hst : l.stackTraces = false) (dC : Nat → ClassId) (dI : Nat → Nat → Nat) (dA : Nat → ClassId) (k : Nat → Nat) (q : Nat → Nat) (σ : Nat → Nat → Int) (H0 : Heap) (hG : gX dC dI dA q σ H0) (hOK : kOK σ) (hq : kQI q k) (o : Nat) (sn : Int) (sv : Value) (hO : va_P (dC, dI) vwCl [(o, .inr (5, [.long (lZ sn), sv]))] H0) (hko : k 0 ≤ o) (ho9 : ∀ i : Nat, i < 9 → q i ≠ o) (z1 : Int) (rz1 : -2147483648 ≤ z1 ∧ z1 < 2147483648) : Met l yL_number ww_L_number ({ frames := 10, cells := 3, slots := 26, locals := 341 }) (va_Pc [.ref (q 0), .int (iZ z1), .ref o] (fun U => U.heap = H0 ∧ kMJ dC dI dA k U ∧ kL U)) (kQ2 (some (.int (iZ (ex2 (!inb z1 0 3) (false))))) (fun H => gX dC dI dA q (if ex2 (!inb z1 0 3) (false) = 0 then σ else σ) H ∧ gOS dC dI dA o H0.size (ex2 (!inb z1 0 3) (false) = 0) (dnum (σ 5 z1.toNat) (σ 6 z1.toNat) (σ 7 z1.toNat)) H) (kAO q o H0.size)) 3 26 (kAO q o H0.size) := by
  refine k_ofWH (cc := cL_number) (maxL := 4) (ret := (some .int)) (hh := [(0, 9, 12, 19)]) (by decide) rfl ?_
  intro p e s m args below meth c s₁ B hml hv
  obtain ⟨rfl, hH, hMJ, hL⟩ := hv
  subst hH
  have hM := hMJ.1
  have hAN : ∀ a, kAO q o s.heap.size a → k 0 ≤ a := kAO_N hq hko hM.2.1.1
  have hS : va_S (kAO q o s.heap.size) s.heap s.heap [] := va_S.rf
  have hno : o < s.heap.size → ¬ kA q s.heap.size o := fun h z => z.elim (fun ⟨i, hi, e9⟩ => ho9 i hi e9.symm) (fun y => absurd h (Nat.not_lt.mpr y))
  obtain ⟨tb, tn, tm, htn, hfit, htm, hPx⟩ := id hG
  have hx := B.exec
  have hb := B.bytes
  have hr := B.returns
  have hts := atoms_spec (ws := ww_L_number) B.pre
  have hown : s.vm.findClass RL = some m.cls := findClass_of_methodNamed B.named
  have hlocks := B.notSynchronized
  have hl := lv_entry ([.ref (q 0), .int (iZ z1), .ref o]) (n := 4) (Nat.le_of_ble_eq_true rfl)
  rw [lg_entry_eq]
  generalize (lg_sl ([.ref (q 0), .int (iZ z1), .ref o]) ++ List.replicate (4 - (lg_sl ([.ref (q 0), .int (iZ z1), .ref o])).length) Slot.unset).toArray = ls at hl ⊢
  have hl : lv_has ls 4 [(0, .ref (q 0)), (1, .int (iZ z1)), (2, .ref o)] := hl
  have hTab := vx_table (x := yL_number) B (hts _ List.mem_cons_self)
  refine lv_aload_n hx hb dL_number_0 rfl (lv_at hl 2 rfl) ?_
  refine lv_aload_n hx hb dL_number_1 rfl (lv_at hl 0 rfl) ?_
  refine lv_iload_n hx hb dL_number_2 rfl (lv_at hl 1 rfl) ?_
  refine kcxr (vx_runV (As := [.int (iZ z1)]) (rest := [.ref o]) ⟨hx, hb, hml, hown, hts⟩ (c_X1_number l hst dC dI dA k q σ _ hG hOK hq z1 rz1) (cwV 1 hts (kg_V mw978 mw979 mw980 mw42 rfl mw981) rfl rfl rfl hdV_X1_number ⟨Nat.le_of_ble_eq_true rfl, Nat.le_of_ble_eq_true rfl⟩) ⟨fun a U g mk q => ⟨q.1, q.2.1, kMJ_call q.2.2⟩, va_recv hM.1 hPx (ci := 4) (q0 := 0) rfl rfl, fun U hU hW => ⟨rfl, hU, kMJ_kept hMJ hS hAN hU hW⟩⟩ rfl rfl hl.1 rfl (lv_room (Nat.le_of_ble_eq_true rfl)) dL_number_3 ⟨Nat.le_of_ble_eq_true rfl, Nat.le_of_ble_eq_true rfl⟩) hS (fun a _ h => Or.inl h) (fun a h => Or.inl h) (fun E ce q9 H1 locs hE hy9 hk9 hS hce hcv hcl => ?_) (fun x9 H1 locs hG1 hE hy9 hk9 hS => ?_)
  · have hG9 : gX dC dI dA q σ H1 := gX_kept hG (fun i _ h => hk9 _ h)
    have hO8 := hO.kept (H1 := H1) (fun i p hp => hk9 _ (hO i p hp).lt)
    rcases hE with ⟨hE, rfl⟩ | ⟨hE, rfl⟩
    · refine vx_catch (own := RL) (name := "java/lang/IndexOutOfBoundsException") hown [] ⟨0, 9, 12, 19⟩ [] hTab (fun z h => absurd h List.not_mem_nil) (by decide) (by decide) (hts _ (List.mem_cons_of_mem _ mw604)) (va_Nw.use rfl hL.2.2.1) hce hcv hcl ?_
      refine lv_astore_n (lv' := [(3, .ref q9), (0, .ref (q 0)), (1, .int (iZ z1)), (2, .ref o)]) hx hb dL_number_12 rfl hl (by decide) rfl (fun ls hl => ?_)
      refine lv_iconst (v := iZ 1) hx hb dL_number_13 rfl ?_
      refine W.widen (k := 3) (n := 26) (Nat.le_of_ble_eq_true rfl) (Nat.le_of_ble_eq_true rfl) ?_
      exact W.iret (v := iZ 1) hx hb hr (fun t ht hW => ⟨⟨congrArg (fun z : Int => Outcome.returned (some (Value.int (iZ z)))) (show 1 = ex2 (!inb z1 0 3) (false) from hE.symm), by rw [ht]; exact ⟨gX_cast hG9 (if_neg (by rw [hE]; decide)).symm, sn, sv, hO8, fun z => absurd z (by rw [hE]; decide)⟩⟩, hS.F ht⟩) hS.2.2 dL_number_14 hlocks
    · exact absurd hE ex2_no2
  obtain ⟨⟨tb1, tn1, tm1, htn1, hfit1, htm1, hP1⟩, w9, g9, ⟨hx9, hw9, hxw⟩, ht9, hT9⟩ := hG1
  have hPO := (hP1.app (hO.kept (H1 := H1) (fun i p hp => hk9 _ (hO i p hp).lt (by match i, hp with | 0, hp => cases hp; exact hno (hO 0 _ rfl).lt | n + 1, hp => cases hp)))).app hT9
  generalize H1 = H at hPO hS ⊢
  clear hk9 hy9
  refine va_putN (D := (dC, dI)) (ci := 5) (v := .ref x9) (ty := .object "java/lang/String") (C := RX2) (T := TX2) (N := 2) hx hb hts (fun w h => List.mem_cons_of_mem _ (gF_1_in h)) tyX2 tyX2_ok nmX2 hown hM.1 hPO (kXOS_D hq ho9 (gX_ltT hG) (hO 0 _ rfl).lt hx9 hw9 hxw) hS 9 rfl rfl 1 (by decide) (va_Nw.use rfl hL.2.1) (fun _ h9 => h9) rfl (by decide +kernel) rfl rfl (Nat.le_of_ble_eq_true rfl) dL_number_6 (fun H locs hPO hD hS => ?_)
  have hPO : va_P (dC, dI) vwCl (kX q dA σ tb1 (nI tn1) tm1 ++ [(o, .inr (5, [.long (lZ sn), .ref x9]))] ++ kS x9 w9 dA g9 (TL (dnum (σ 5 z1.toNat) (σ 6 z1.toNat) (σ 7 z1.toNat)))) _ := hPO
  refine lv_goto (tgt := 15) hx hb dL_number_9 (by decide) ?_
  refine lv_iconst (v := iZ 0) hx hb dL_number_15 rfl ?_
  refine W.widen (k := 3) (n := 26) (Nat.le_of_ble_eq_true rfl) (Nat.le_of_ble_eq_true rfl) ?_
  exact W.iret (v := iZ 0) hx hb hr (fun t ht hW => ⟨⟨congrArg (fun z : Int => Outcome.returned (some (Value.int (iZ z)))) (show 0 = ex2 (!inb z1 0 3) (false) from hE.symm), by rw [ht]; exact ⟨gX_cast ⟨tb1, tn1, tm1, htn1, hfit1, htm1, va_Pl (a := kX q dA σ tb1 (nI tn1) tm1) (va_Pl hPO)⟩ (if_pos hE).symm, sn, .ref x9, va_Pr (a := kX q dA σ tb1 (nI tn1) tm1) (va_Pl hPO), fun _ => ⟨x9, rfl, w9, g9, ⟨hx9, hw9, hxw⟩, ht9, va_Pr hPO⟩⟩⟩, hS.F ht⟩) hS.2.2 dL_number_16 hlocks

abbrev ww_L_dayOrder : List Cond := .codeWith yL_dayOrder cL_dayOrder 6 (some .int) [(0, 13, 16, 19), (0, 13, 20, 21)] :: gT
set_option maxHeartbeats 4000000 in
set_option maxRecDepth 100000 in
theorem c_L_dayOrder (l : Launch) (hst : l.stackTraces = false) (dC : Nat → ClassId) (dI : Nat → Nat → Nat) (dA : Nat → ClassId) (k : Nat → Nat) (q : Nat → Nat) (σ : Nat → Nat → Int) (H0 : Heap) (hG : gX dC dI dA q σ H0) (hOK : kOK σ) (hq : kQI q k) (o : Nat) (sn : Int) (sv : Value) (hO : va_P (dC, dI) vwCl [(o, .inr (5, [.long (lZ sn), sv]))] H0) (hko : k 0 ≤ o) (ho9 : ∀ i : Nat, i < 9 → q i ≠ o) (z1 : Int) (z2 : Int) (w0 : Int) (rz1 : -2147483648 ≤ z1 ∧ z1 < 2147483648) (rz2 : -2147483648 ≤ z2 ∧ z2 < 2147483648) (rw0 : -2147483648 ≤ w0 ∧ w0 < 2147483648) : Met l yL_dayOrder ww_L_dayOrder ({ frames := 10, cells := 3, slots := 18, locals := 345 }) (va_Pc [.ref (q 0), .int (iZ z1), .int (iZ z2), .int (iZ w0), .ref o] (fun U => U.heap = H0 ∧ kMJ dC dI dA k U ∧ kL U)) (kQ2 (some (.int (iZ (ex2 (!inb z1 0 3 || !inb z2 0 3) (!inb w0 0 2))))) (fun H => gX dC dI dA q (if ex2 (!inb z1 0 3 || !inb z2 0 3) (!inb w0 0 2) = 0 then (σ) else σ) H ∧ gO dC dI o (fun n => ex2 (!inb z1 0 3 || !inb z2 0 3) (!inb w0 0 2) = 0 → n = w32 (ordT (dnum (σ 5 (z1.toNat)) (σ 6 (z1.toNat)) (σ 7 (z1.toNat))) (dnum (σ 5 (z2.toNat)) (σ 6 (z2.toNat)) (σ 7 (z2.toNat))) w0)) H) (kAO q o H0.size)) 3 18 (kAO q o H0.size) := by
  refine k_ofWH (cc := cL_dayOrder) (maxL := 6) (ret := (some .int)) (hh := [(0, 13, 16, 19), (0, 13, 20, 21)]) (by decide) rfl ?_
  intro p e s m args below meth c s₁ B hml hv
  obtain ⟨rfl, hH, hMJ, hL⟩ := hv
  subst hH
  have hM := hMJ.1
  have hAN : ∀ a, kAO q o s.heap.size a → k 0 ≤ a := kAO_N hq hko hM.2.1.1
  have hS : va_S (kAO q o s.heap.size) s.heap s.heap [] := va_S.rf
  have hno : o < s.heap.size → ¬ kA q s.heap.size o := fun h z => z.elim (fun ⟨i, hi, e9⟩ => ho9 i hi e9.symm) (fun y => absurd h (Nat.not_lt.mpr y))
  obtain ⟨tb, tn, tm, htn, hfit, htm, hPx⟩ := id hG
  have hx := B.exec
  have hb := B.bytes
  have hr := B.returns
  have hts := atoms_spec (ws := ww_L_dayOrder) B.pre
  have hown : s.vm.findClass RL = some m.cls := findClass_of_methodNamed B.named
  have hlocks := B.notSynchronized
  have hl := lv_entry ([.ref (q 0), .int (iZ z1), .int (iZ z2), .int (iZ w0), .ref o]) (n := 6) (Nat.le_of_ble_eq_true rfl)
  rw [lg_entry_eq]
  generalize (lg_sl ([.ref (q 0), .int (iZ z1), .int (iZ z2), .int (iZ w0), .ref o]) ++ List.replicate (6 - (lg_sl ([.ref (q 0), .int (iZ z1), .int (iZ z2), .int (iZ w0), .ref o])).length) Slot.unset).toArray = ls at hl ⊢
  have hl : lv_has ls 6 [(0, .ref (q 0)), (1, .int (iZ z1)), (2, .int (iZ z2)), (3, .int (iZ w0)), (4, .ref o)] := hl
  have hTab := vx_table (x := yL_dayOrder) B (hts _ List.mem_cons_self)
  refine lv_aload hx hb dL_dayOrder_0 (lv_at hl 4 rfl) ?_
  refine lv_aload_n hx hb dL_dayOrder_2 rfl (lv_at hl 0 rfl) ?_
  refine lv_iload_n hx hb dL_dayOrder_3 rfl (lv_at hl 1 rfl) ?_
  refine lv_iload_n hx hb dL_dayOrder_4 rfl (lv_at hl 2 rfl) ?_
  refine lv_iload_n hx hb dL_dayOrder_5 rfl (lv_at hl 3 rfl) ?_
  refine kcxc (vx_runV (As := [.int (iZ z1), .int (iZ z2), .int (iZ w0)]) (rest := [.ref o]) ⟨hx, hb, hml, hown, hts⟩ (c_X1_dayOrder l hst dC dI dA k q σ _ hG hOK hq z1 z2 w0 rz1 rz2 rw0) (cwV 3 hts (kg_V mw985 mw986 mw987 mw42 rfl mw988) rfl rfl rfl hdV_X1_dayOrder ⟨Nat.le_of_ble_eq_true rfl, Nat.le_of_ble_eq_true rfl⟩) ⟨fun a U g mk q => ⟨q.1, q.2.1, kM_call q.2.2⟩, va_recv hM.1 hPx (ci := 4) (q0 := 0) rfl rfl, fun U hU hW => ⟨rfl, hU, kM_kept hM hS hAN hU hW⟩⟩ rfl rfl hl.1 rfl (lv_room (Nat.le_of_ble_eq_true rfl)) dL_dayOrder_6 ⟨Nat.le_of_ble_eq_true rfl, Nat.le_of_ble_eq_true rfl⟩) hS (fun a _ h => Or.inl h) (fun a h => Or.inl h) (fun E ce q9 H1 locs hE hy9 hk9 hS hce hcv hcl => ?_) (fun H1 locs hG1 hE hy9 hk9 hS => ?_)
  · have hG9 : gX dC dI dA q σ H1 := gX_kept hG (fun i _ h => hk9 _ h)
    have hO8 := hO.kept (H1 := H1) (fun i p hp => hk9 _ (hO i p hp).lt)
    rcases hE with ⟨hE, rfl⟩ | ⟨hE, rfl⟩
    · refine vx_catch (own := RL) (name := "java/lang/IndexOutOfBoundsException") hown [] ⟨0, 13, 16, 19⟩ [⟨0, 13, 20, 21⟩] hTab (fun z h => absurd h List.not_mem_nil) (by decide) (by decide) (hts _ (List.mem_cons_of_mem _ mw604)) (va_Nw.use rfl hL.2.2.1) hce hcv hcl ?_
      refine lv_astore (lv' := [(5, .ref q9), (0, .ref (q 0)), (1, .int (iZ z1)), (2, .int (iZ z2)), (3, .int (iZ w0)), (4, .ref o)]) hx hb dL_dayOrder_16 hl (by decide) rfl (fun ls hl => ?_)
      refine lv_iconst (v := iZ 1) hx hb dL_dayOrder_18 rfl ?_
      refine W.widen (k := 3) (n := 18) (Nat.le_of_ble_eq_true rfl) (Nat.le_of_ble_eq_true rfl) ?_
      exact W.iret (v := iZ 1) hx hb hr (fun t ht hW => ⟨⟨congrArg (fun z : Int => Outcome.returned (some (Value.int (iZ z)))) (show 1 = ex2 (!inb z1 0 3 || !inb z2 0 3) (!inb w0 0 2) from hE.symm), by rw [ht]; exact ⟨gX_cast hG9 (if_neg (by rw [hE]; decide)).symm, sn, sv, fun z => absurd z (by rw [hE]; decide), hO8⟩⟩, hS.F ht⟩) hS.2.2 dL_dayOrder_19 hlocks
    · refine vx_catch (own := RL) (name := "java/lang/IllegalArgumentException") hown [⟨0, 13, 16, 19⟩] ⟨0, 13, 20, 21⟩ [] hTab (fun z h => by cases List.mem_singleton.mp h; exact Or.inr ⟨by decide, "java/lang/IndexOutOfBoundsException", (hts _ (List.mem_cons_of_mem _ mw604)), hM.2.1.2.2.2.2.2.2.2.2.2.2.2⟩) (by decide) (by decide) (hts _ (List.mem_cons_of_mem _ mw605)) (va_Nw.use rfl hL.2.2.2) hce hcv hcl ?_
      refine lv_astore (lv' := [(5, .ref q9), (0, .ref (q 0)), (1, .int (iZ z1)), (2, .int (iZ z2)), (3, .int (iZ w0)), (4, .ref o)]) hx hb dL_dayOrder_20 hl (by decide) rfl (fun ls hl => ?_)
      refine lv_iconst (v := iZ 2) hx hb dL_dayOrder_22 rfl ?_
      refine W.widen (k := 3) (n := 18) (Nat.le_of_ble_eq_true rfl) (Nat.le_of_ble_eq_true rfl) ?_
      exact W.iret (v := iZ 2) hx hb hr (fun t ht hW => ⟨⟨congrArg (fun z : Int => Outcome.returned (some (Value.int (iZ z)))) (show 2 = ex2 (!inb z1 0 3 || !inb z2 0 3) (!inb w0 0 2) from hE.symm), by rw [ht]; exact ⟨gX_cast hG9 (if_neg (by rw [hE]; decide)).symm, sn, sv, fun z => absurd z (by rw [hE]; decide), hO8⟩⟩, hS.F ht⟩) hS.2.2 dL_dayOrder_23 hlocks
  obtain ⟨tb1, tn1, tm1, htn1, hfit1, htm1, hP1⟩ := hG1
  have hPO := hP1.app (hO.kept (H1 := H1) (fun i p hp => hk9 _ (hO i p hp).lt (by match i, hp with | 0, hp => cases hp; exact hno (hO 0 _ rfl).lt | n + 1, hp => cases hp)))
  generalize H1 = H at hPO hS ⊢
  clear hk9 hy9
  refine kz_w32 ?_
  refine kz_i2l hx hb (w32_rng _) dL_dayOrder_9 ?_
  refine va_putN (D := (dC, dI)) (ci := 5) (v := .long (lZ ((w32 (ordT (dnum (σ 5 (z1.toNat)) (σ 6 (z1.toNat)) (σ 7 (z1.toNat))) (dnum (σ 5 (z2.toNat)) (σ 6 (z2.toNat)) (σ 7 (z2.toNat))) w0))))) (ty := .long) (C := RX2) (T := TX2) (N := 2) hx hb hts (fun w h => List.mem_cons_of_mem _ (gF_1_in h)) tyX2 tyX2_ok nmX2 hown hM.1 hPO (kXO_D hq ho9) hS 9 rfl rfl 0 (by decide) (va_Nw.use rfl hL.1) (fun _ h9 => h9) rfl (by decide +kernel) rfl rfl (Nat.le_of_ble_eq_true rfl) dL_dayOrder_10 (fun H locs hPO hD hS => ?_)
  refine lv_goto (tgt := 24) hx hb dL_dayOrder_13 (by decide) ?_
  refine lv_iconst (v := iZ 0) hx hb dL_dayOrder_24 rfl ?_
  refine W.widen (k := 3) (n := 18) (Nat.le_of_ble_eq_true rfl) (Nat.le_of_ble_eq_true rfl) ?_
  exact W.iret (v := iZ 0) hx hb hr (fun t ht hW => ⟨⟨congrArg (fun z : Int => Outcome.returned (some (Value.int (iZ z)))) (show 0 = ex2 (!inb z1 0 3 || !inb z2 0 3) (!inb w0 0 2) from hE.symm), by rw [ht]; exact ⟨gX_cast ⟨tb1, tn1, tm1, htn1, hfit1, htm1, va_Pl (a := kX q dA (σ) tb1 (nI tn1) tm1) hPO⟩ (if_pos hE).symm, _, _, fun _ => rfl, va_Pr (a := kX q dA (σ) tb1 (nI tn1) tm1) hPO⟩⟩, hS.F ht⟩) hS.2.2 dL_dayOrder_25 hlocks

abbrev ww_L_knows : List Cond := .codeWith yL_knows cL_knows 5 (some .int) [(0, 18, 21, 21)] :: gT
set_option maxHeartbeats 4000000 in
set_option maxRecDepth 100000 in
theorem c_L_knows (l : Launch) (hst : l.stackTraces = false) (dC : Nat → ClassId) (dI : Nat → Nat → Nat) (dA : Nat → ClassId) (k : Nat → Nat) (q : Nat → Nat) (σ : Nat → Nat → Int) (H0 : Heap) (hG : gX dC dI dA q σ H0) (hOK : kOK σ) (hq : kQI q k) (o : Nat) (sn : Int) (sv : Value) (hO : va_P (dC, dI) vwCl [(o, .inr (5, [.long (lZ sn), sv]))] H0) (hko : k 0 ≤ o) (ho9 : ∀ i : Nat, i < 9 → q i ≠ o) (kd : Int) (w0 : Int) (rkd : -2147483648 ≤ kd ∧ kd < 2147483648) (rw0 : -2147483648 ≤ w0 ∧ w0 < 2147483648) : Met l yL_knows ww_L_knows ({ frames := 10, cells := 2, slots := 12, locals := 344 }) (va_Pc [.ref (q 0), .int (iZ kd), .int (iZ w0), .ref o] (fun U => U.heap = H0 ∧ kMJ dC dI dA k U ∧ kL U)) (kQ2 (some (.int (iZ (ex2 (!inb kd 0 2 || !inb w0 0 12) (false))))) (fun H => gX dC dI dA q (if ex2 (!inb kd 0 2 || !inb w0 0 12) (false) = 0 then (σ) else σ) H ∧ gO dC dI o (fun n => ex2 (!inb kd 0 2 || !inb w0 0 12) (false) = 0 → n = bZ (knw kd w0)) H) (kAO q o H0.size)) 2 12 (kAO q o H0.size) := by
  refine k_ofWH (cc := cL_knows) (maxL := 5) (ret := (some .int)) (hh := [(0, 18, 21, 21)]) (by decide) rfl ?_
  intro p e s m args below meth c s₁ B hml hv
  obtain ⟨rfl, hH, hMJ, hL⟩ := hv
  subst hH
  have hM := hMJ.1
  have hAN : ∀ a, kAO q o s.heap.size a → k 0 ≤ a := kAO_N hq hko hM.2.1.1
  have hS : va_S (kAO q o s.heap.size) s.heap s.heap [] := va_S.rf
  have hno : o < s.heap.size → ¬ kA q s.heap.size o := fun h z => z.elim (fun ⟨i, hi, e9⟩ => ho9 i hi e9.symm) (fun y => absurd h (Nat.not_lt.mpr y))
  obtain ⟨tb, tn, tm, htn, hfit, htm, hPx⟩ := id hG
  have hx := B.exec
  have hb := B.bytes
  have hr := B.returns
  have hts := atoms_spec (ws := ww_L_knows) B.pre
  have hown : s.vm.findClass RL = some m.cls := findClass_of_methodNamed B.named
  have hlocks := B.notSynchronized
  have hl := lv_entry ([.ref (q 0), .int (iZ kd), .int (iZ w0), .ref o]) (n := 5) (Nat.le_of_ble_eq_true rfl)
  rw [lg_entry_eq]
  generalize (lg_sl ([.ref (q 0), .int (iZ kd), .int (iZ w0), .ref o]) ++ List.replicate (5 - (lg_sl ([.ref (q 0), .int (iZ kd), .int (iZ w0), .ref o])).length) Slot.unset).toArray = ls at hl ⊢
  have hl : lv_has ls 5 [(0, .ref (q 0)), (1, .int (iZ kd)), (2, .int (iZ w0)), (3, .ref o)] := hl
  have hTab := vx_table (x := yL_knows) B (hts _ List.mem_cons_self)
  refine lv_aload_n hx hb dL_knows_0 rfl (lv_at hl 3 rfl) ?_
  refine lv_aload_n hx hb dL_knows_1 rfl (lv_at hl 0 rfl) ?_
  refine lv_iload_n hx hb dL_knows_2 rfl (lv_at hl 1 rfl) ?_
  refine lv_iload_n hx hb dL_knows_3 rfl (lv_at hl 2 rfl) ?_
  refine kcxc (vx_runV (As := [.int (iZ kd), .int (iZ w0)]) (rest := [.ref o]) ⟨hx, hb, hml, hown, hts⟩ (c_X1_knows l hst dC dI dA k q σ _ hG hOK hq kd w0 rkd rw0) (cwV 2 hts (kg_V mw992 mw993 mw994 mw42 rfl mw995) rfl rfl rfl hdV_X1_knows ⟨Nat.le_of_ble_eq_true rfl, Nat.le_of_ble_eq_true rfl⟩) ⟨fun a U g mk q => ⟨q.1, q.2.1, kM_call q.2.2⟩, va_recv hM.1 hPx (ci := 4) (q0 := 0) rfl rfl, fun U hU hW => ⟨rfl, hU, kM_kept hM hS hAN hU hW⟩⟩ rfl rfl hl.1 rfl (lv_room (Nat.le_of_ble_eq_true rfl)) dL_knows_4 ⟨Nat.le_of_ble_eq_true rfl, Nat.le_of_ble_eq_true rfl⟩) hS (fun a _ h => Or.inl h) (fun a h => Or.inl h) (fun E ce q9 H1 locs hE hy9 hk9 hS hce hcv hcl => ?_) (fun H1 locs hG1 hE hy9 hk9 hS => ?_)
  · have hG9 : gX dC dI dA q σ H1 := gX_kept hG (fun i _ h => hk9 _ h)
    have hO8 := hO.kept (H1 := H1) (fun i p hp => hk9 _ (hO i p hp).lt)
    obtain ⟨hE, rfl⟩ := hE
    refine vx_catch (own := RL) (name := "java/lang/IllegalArgumentException") hown [] ⟨0, 18, 21, 21⟩ [] hTab (fun z h => absurd h List.not_mem_nil) (by decide) (by decide) (hts _ (List.mem_cons_of_mem _ mw605)) (va_Nw.use rfl hL.2.2.2) hce hcv hcl ?_
    refine lv_astore (lv' := [(4, .ref q9), (0, .ref (q 0)), (1, .int (iZ kd)), (2, .int (iZ w0)), (3, .ref o)]) hx hb dL_knows_21 hl (by decide) rfl (fun ls hl => ?_)
    refine lv_iconst (v := iZ 1) hx hb dL_knows_23 rfl ?_
    refine W.widen (k := 2) (n := 12) (Nat.le_of_ble_eq_true rfl) (Nat.le_of_ble_eq_true rfl) ?_
    exact W.iret (v := iZ 1) hx hb hr (fun t ht hW => ⟨⟨congrArg (fun z : Int => Outcome.returned (some (Value.int (iZ z)))) (show 1 = ex2 (!inb kd 0 2 || !inb w0 0 12) (false) from hE.symm), by rw [ht]; exact ⟨gX_cast hG9 (if_neg (by rw [hE]; decide)).symm, sn, sv, fun z => absurd z (by rw [hE]; decide), hO8⟩⟩, hS.F ht⟩) hS.2.2 dL_knows_24 hlocks
  obtain ⟨tb1, tn1, tm1, htn1, hfit1, htm1, hP1⟩ := hG1
  have hPO := hP1.app (hO.kept (H1 := H1) (fun i p hp => hk9 _ (hO i p hp).lt (by match i, hp with | 0, hp => cases hp; exact hno (hO 0 _ rfl).lt | n + 1, hp => cases hp)))
  generalize H1 = H at hPO hS ⊢
  clear hk9 hy9
  refine kz_b2l hx hb dL_knows_7 dL_knows_10 dL_knows_11 dL_knows_14 ?_
  refine va_putN (D := (dC, dI)) (ci := 5) (v := .long (lZ (bZ (knw kd w0)))) (ty := .long) (C := RX2) (T := TX2) (N := 2) hx hb hts (fun w h => List.mem_cons_of_mem _ (gF_1_in h)) tyX2 tyX2_ok nmX2 hown hM.1 hPO (kXO_D hq ho9) hS 9 rfl rfl 0 (by decide) (va_Nw.use rfl hL.1) (fun _ h9 => h9) rfl (by decide +kernel) rfl rfl (Nat.le_of_ble_eq_true rfl) dL_knows_15 (fun H locs hPO hD hS => ?_)
  refine lv_goto (tgt := 25) hx hb dL_knows_18 (by decide) ?_
  refine lv_iconst (v := iZ 0) hx hb dL_knows_25 rfl ?_
  refine W.widen (k := 2) (n := 12) (Nat.le_of_ble_eq_true rfl) (Nat.le_of_ble_eq_true rfl) ?_
  exact W.iret (v := iZ 0) hx hb hr (fun t ht hW => ⟨⟨congrArg (fun z : Int => Outcome.returned (some (Value.int (iZ z)))) (show 0 = ex2 (!inb kd 0 2 || !inb w0 0 12) (false) from hE.symm), by rw [ht]; exact ⟨gX_cast ⟨tb1, tn1, tm1, htn1, hfit1, htm1, va_Pl (a := kX q dA (σ) tb1 (nI tn1) tm1) hPO⟩ (if_pos hE).symm, _, _, fun _ => rfl, va_Pr (a := kX q dA (σ) tb1 (nI tn1) tm1) hPO⟩⟩, hS.F ht⟩) hS.2.2 dL_knows_26 hlocks

abbrev ww_L_house : List Cond := .codeWith yL_house cL_house 4 (some .int) [(0, 10, 13, 21)] :: gT
set_option maxHeartbeats 4000000 in
set_option maxRecDepth 100000 in
theorem c_L_house (l : Launch) (hst : l.stackTraces = false) (dC : Nat → ClassId) (dI : Nat → Nat → Nat) (dA : Nat → ClassId) (k : Nat → Nat) (q : Nat → Nat) (σ : Nat → Nat → Int) (H0 : Heap) (hG : gX dC dI dA q σ H0) (hOK : kOK σ) (hq : kQI q k) (o : Nat) (sn : Int) (sv : Value) (hO : va_P (dC, dI) vwCl [(o, .inr (5, [.long (lZ sn), sv]))] H0) (hko : k 0 ≤ o) (ho9 : ∀ i : Nat, i < 9 → q i ≠ o) (w0 : Int) (rw0 : -2147483648 ≤ w0 ∧ w0 < 2147483648) : Met l yL_house ww_L_house ({ frames := 10, cells := 1, slots := 6, locals := 345 }) (va_Pc [.ref (q 0), .int (iZ w0), .ref o] (fun U => U.heap = H0 ∧ kMJ dC dI dA k U ∧ kL U)) (kQ2 (some (.int (iZ (ex2 (!inb w0 0 4) (false))))) (fun H => gX dC dI dA q (if ex2 (!inb w0 0 4) (false) = 0 then (σ) else σ) H ∧ gO dC dI o (fun n => ex2 (!inb w0 0 4) (false) = 0 → n = w32 (hsR σ w0)) H) (kAO q o H0.size)) 1 6 (kAO q o H0.size) := by
  refine k_ofWH (cc := cL_house) (maxL := 4) (ret := (some .int)) (hh := [(0, 10, 13, 21)]) (by decide) rfl ?_
  intro p e s m args below meth c s₁ B hml hv
  obtain ⟨rfl, hH, hMJ, hL⟩ := hv
  subst hH
  have hM := hMJ.1
  have hAN : ∀ a, kAO q o s.heap.size a → k 0 ≤ a := kAO_N hq hko hM.2.1.1
  have hS : va_S (kAO q o s.heap.size) s.heap s.heap [] := va_S.rf
  have hno : o < s.heap.size → ¬ kA q s.heap.size o := fun h z => z.elim (fun ⟨i, hi, e9⟩ => ho9 i hi e9.symm) (fun y => absurd h (Nat.not_lt.mpr y))
  obtain ⟨tb, tn, tm, htn, hfit, htm, hPx⟩ := id hG
  have hx := B.exec
  have hb := B.bytes
  have hr := B.returns
  have hts := atoms_spec (ws := ww_L_house) B.pre
  have hown : s.vm.findClass RL = some m.cls := findClass_of_methodNamed B.named
  have hlocks := B.notSynchronized
  have hl := lv_entry ([.ref (q 0), .int (iZ w0), .ref o]) (n := 4) (Nat.le_of_ble_eq_true rfl)
  rw [lg_entry_eq]
  generalize (lg_sl ([.ref (q 0), .int (iZ w0), .ref o]) ++ List.replicate (4 - (lg_sl ([.ref (q 0), .int (iZ w0), .ref o])).length) Slot.unset).toArray = ls at hl ⊢
  have hl : lv_has ls 4 [(0, .ref (q 0)), (1, .int (iZ w0)), (2, .ref o)] := hl
  have hTab := vx_table (x := yL_house) B (hts _ List.mem_cons_self)
  refine lv_aload_n hx hb dL_house_0 rfl (lv_at hl 2 rfl) ?_
  refine lv_aload_n hx hb dL_house_1 rfl (lv_at hl 0 rfl) ?_
  refine lv_iload_n hx hb dL_house_2 rfl (lv_at hl 1 rfl) ?_
  refine kcxc (vx_runV (As := [.int (iZ w0)]) (rest := [.ref o]) ⟨hx, hb, hml, hown, hts⟩ (c_X1_house l hst dC dI dA k q σ _ hG hOK hq w0 rw0) (cwV 1 hts (kg_V mw999 mw589 mw590 mw42 rfl mw591) rfl rfl rfl hdV_X1_house ⟨Nat.le_of_ble_eq_true rfl, Nat.le_of_ble_eq_true rfl⟩) ⟨fun a U g mk q => ⟨q.1, q.2.1, kM_call q.2.2⟩, va_recv hM.1 hPx (ci := 4) (q0 := 0) rfl rfl, fun U hU hW => ⟨rfl, hU, kM_kept hM hS hAN hU hW⟩⟩ rfl rfl hl.1 rfl (lv_room (Nat.le_of_ble_eq_true rfl)) dL_house_3 ⟨Nat.le_of_ble_eq_true rfl, Nat.le_of_ble_eq_true rfl⟩) hS (fun a _ h => Or.inl h) (fun a h => Or.inl h) (fun E ce q9 H1 locs hE hy9 hk9 hS hce hcv hcl => ?_) (fun H1 locs hG1 hE hy9 hk9 hS => ?_)
  · have hG9 : gX dC dI dA q σ H1 := gX_kept hG (fun i _ h => hk9 _ h)
    have hO8 := hO.kept (H1 := H1) (fun i p hp => hk9 _ (hO i p hp).lt)
    obtain ⟨hE, rfl⟩ := hE
    refine vx_catch (own := RL) (name := "java/lang/IllegalArgumentException") hown [] ⟨0, 10, 13, 21⟩ [] hTab (fun z h => absurd h List.not_mem_nil) (by decide) (by decide) (hts _ (List.mem_cons_of_mem _ mw605)) (va_Nw.use rfl hL.2.2.2) hce hcv hcl ?_
    refine lv_astore_n (lv' := [(3, .ref q9), (0, .ref (q 0)), (1, .int (iZ w0)), (2, .ref o)]) hx hb dL_house_13 rfl hl (by decide) rfl (fun ls hl => ?_)
    refine lv_iconst (v := iZ 1) hx hb dL_house_14 rfl ?_
    refine W.widen (k := 1) (n := 6) (Nat.le_of_ble_eq_true rfl) (Nat.le_of_ble_eq_true rfl) ?_
    exact W.iret (v := iZ 1) hx hb hr (fun t ht hW => ⟨⟨congrArg (fun z : Int => Outcome.returned (some (Value.int (iZ z)))) (show 1 = ex2 (!inb w0 0 4) (false) from hE.symm), by rw [ht]; exact ⟨gX_cast hG9 (if_neg (by rw [hE]; decide)).symm, sn, sv, fun z => absurd z (by rw [hE]; decide), hO8⟩⟩, hS.F ht⟩) hS.2.2 dL_house_15 hlocks
  obtain ⟨tb1, tn1, tm1, htn1, hfit1, htm1, hP1⟩ := hG1
  have hPO := hP1.app (hO.kept (H1 := H1) (fun i p hp => hk9 _ (hO i p hp).lt (by match i, hp with | 0, hp => cases hp; exact hno (hO 0 _ rfl).lt | n + 1, hp => cases hp)))
  generalize H1 = H at hPO hS ⊢
  clear hk9 hy9
  refine kz_w32 ?_
  refine kz_i2l hx hb (w32_rng _) dL_house_6 ?_
  refine va_putN (D := (dC, dI)) (ci := 5) (v := .long (lZ ((w32 (hsR σ w0))))) (ty := .long) (C := RX2) (T := TX2) (N := 2) hx hb hts (fun w h => List.mem_cons_of_mem _ (gF_1_in h)) tyX2 tyX2_ok nmX2 hown hM.1 hPO (kXO_D hq ho9) hS 9 rfl rfl 0 (by decide) (va_Nw.use rfl hL.1) (fun _ h9 => h9) rfl (by decide +kernel) rfl rfl (Nat.le_of_ble_eq_true rfl) dL_house_7 (fun H locs hPO hD hS => ?_)
  refine lv_goto (tgt := 16) hx hb dL_house_10 (by decide) ?_
  refine lv_iconst (v := iZ 0) hx hb dL_house_16 rfl ?_
  refine W.widen (k := 1) (n := 6) (Nat.le_of_ble_eq_true rfl) (Nat.le_of_ble_eq_true rfl) ?_
  exact W.iret (v := iZ 0) hx hb hr (fun t ht hW => ⟨⟨congrArg (fun z : Int => Outcome.returned (some (Value.int (iZ z)))) (show 0 = ex2 (!inb w0 0 4) (false) from hE.symm), by rw [ht]; exact ⟨gX_cast ⟨tb1, tn1, tm1, htn1, hfit1, htm1, va_Pl (a := kX q dA (σ) tb1 (nI tn1) tm1) hPO⟩ (if_pos hE).symm, _, _, fun _ => rfl, va_Pr (a := kX q dA (σ) tb1 (nI tn1) tm1) hPO⟩⟩, hS.F ht⟩) hS.2.2 dL_house_17 hlocks

