def kQN (dC : Nat → ClassId) (dI : Nat → Nat → Nat) (w : va_W) (cA : ClassId) (N : Nat) (g : Nat → Int32) (A : Nat → Prop) : Array Value → State → Outcome → State → Prop := fun _ st oc t => ∃ v : Nat, (oc = .returned (some (.ref v)) ∧ va_P (dC, dI) vwCl (w ++ [(v, .inl (cA, N, .inl g))]) t.heap ∧ st.heap.size ≤ v) ∧ va_F A st t
section
variable {p : Program} {l : Launch} {e : Env} {R : Room} {s : State} {m : MethodId} {args : Array Value} {below : List Frame} {meth : Method} {c : Code} {H : Heap} {locs : List Loc} {cells slots : Nat} {Q : State → Prop}
variable {cc : ByteArray} {pc : Nat} {ls : Array Slot} {rest : List Value}
theorem kcN {a : Array Value} {st0 : List Value} {dC : Nat → ClassId} {dI : Nat → Nat → Nat} {w : va_W} {cA : ClassId} {N : Nat} {g : Nat → Int32} {A0 A1 : Nat → Prop} {H0 : Heap} {free : Addr → Prop} {mc ms : Nat} (hr : va_Run p l e R s m args below meth c H locs cells slots mc ms (F0 m pc ls st0) rest (kQN dC dI w cA N g A1 a) free) (hS : va_S A0 H0 H locs) (hD : va_D A0 w) (hP : va_P (dC, dI) vwCl w H) (hA : ∀ q, q < H.size → A1 q → A0 q) (hf : ∀ q, free q → A0 q) (hN : ∀ q, H0.size ≤ q → A0 q)
    (kk : ∀ (v : Nat) (H1 : Heap) (locs1 : List Loc), va_P (dC, dI) vwCl (w ++ [(v, .inl (cA, N, .inl g))]) H1 → va_D A0 (w ++ [(v, .inl (cA, N, .inl g))]) → va_S A0 H0 H1 locs1 → W p l e R s m args below meth c H1 locs1 (cells + mc) (slots + ms) Q (F0 m (pc + 3) ls (.ref v :: rest))) : W p l e R s m args below meth c H locs cells slots Q (F0 m pc ls st0) := by
  intro T hT X
  obtain ⟨v1, st₀, t, T', L, h0, X', hL, e1, e2, ⟨v, ⟨hv, hc, hsz⟩, hz, hk⟩, st⟩ := hr T hT X
  cases hv
  rw [h0] at hz hk hsz
  obtain ⟨t2, a1, b1⟩ := kk v T'.heap (locs ++ L) (by rw [e1]; exact hc)
    (va_D.app hD ⟨fun i j p q hi hj _ => by
        have h1 := (List.getElem?_eq_some_iff.mp hi).1
        have h2 := (List.getElem?_eq_some_iff.mp hj).1
        simp at h1 h2; omega, fun i q hi => by
        have h1 := (List.getElem?_eq_some_iff.mp hi).1
        have h3 : i = 0 := by simp at h1; omega
        subst h3; cases hi
        exact hN _ (Nat.le_trans hS.1 hsz)⟩ (fun i j p q hi hj => by
        have h1 := (List.getElem?_eq_some_iff.mp hj).1
        have h3 : j = 0 := by simp at h1; omega
        subst h3; cases hj
        have h4 := (hP i p hi).lt
        intro h5
        have h6 : p.1 = v := h5
        omega))
    ⟨Nat.le_trans hS.1 (by rw [e1]; exact hz), fun q h1 h2 => by rw [e1, hk q (Nat.lt_of_lt_of_le h1 hS.1) (fun z => h2 (hA q (Nat.lt_of_lt_of_le h1 hS.1) z))]; exact hS.2.1 q h1 h2, fun q hq => by
      rcases List.mem_append.mp hq with h | h
      · exact hS.2.2 q h
      · exact hf _ (hL q h)⟩ T' rfl X'
  exact ⟨t2, st t2 a1, b1⟩
end
theorem kQN_e {D : va_G} {cl : List vw_C} {w : va_W} {v : Nat} {cA : ClassId} {a b c c' : Int} {H : Heap} (h : va_P D cl (w ++ [(v, .inl (cA, 3, .inl (row3 a b c)))]) H) (e : c = c') : va_P D cl (w ++ [(v, .inl (cA, 3, .inl (row3 a b c')))]) H := e ▸ h
abbrev ww_X3_dayOf : List Cond := .code yX3_dayOf cX3_dayOf 2 (some (.array .int) :: gT
set_option maxHeartbeats 4000000 in
set_option maxRecDepth 100000 in
theorem c_X3_dayOf (l : Launch) (dC : Nat → ClassId) (dI : Nat → Nat → Nat) (dA : Nat → ClassId) (k : Nat → Nat) (m0 : Nat) (r0 : Nat → Nat → Nat) (σ : Nat → Nat → Int) (th : Int) (H0 : Heap) (hP : va_P (dC, dI) vwCl (kY dA m0 r0 σ th) H0) (hr : kRI m0 r0 k) (hOK : kOK σ) (pj : Nat) (yy : Int) (hpj : pj < 4) (h0 : -2147483648 ≤ yy ∧ yy < 2147483648) : Met l yX3_dayOf ww_X3_dayOf ({ frames := 4, cells := 1, slots := 3, locals := 87 }) (va_Pc [.ref (r0 2 pj), .int (iZ yy)] (fun U => U.heap = H0 ∧ kM dC dI dA k U)) (kQN dC dI (kY dA m0 r0 σ th) (dA 0) 3 (row3 yy (σ 3 pj) (dayIn σ pj yy)) (kAy m0 r0 H0.size)) 1 3 (kAy m0 r0 H0.size) := by
  refine Met.ofW (cc := cX3_dayOf) (maxL := 2) (ret := (some (.array .int)) (by decide) rfl ?_
  intro p e s m args below meth c s₁ B hml hv
  obtain ⟨rfl, hH, hM⟩ := hv
  subst hH
  have hr0 := hr
  have hAN : ∀ a, kAy m0 r0 s.heap.size a → k 0 ≤ a := fun a h => kAy_N hr0 hM.2.1.1 a h
  have hrA : ∀ i : Nat, i < 17 → kAy m0 r0 s.heap.size (kR m0 r0 i) := fun i hi => Or.inl ⟨i, hi, rfl⟩
  have hD : va_D (kAy m0 r0 s.heap.size) (kY dA m0 r0 σ (th) ++ ([] : va_W)) := by rw [← kap]; exact kYD_A hr hrA
  have hP : va_P (dC, dI) vwCl (kY dA m0 r0 σ (th) ++ ([] : va_W)) s.heap := hP
  have hS : va_S (kAy m0 r0 s.heap.size) s.heap s.heap [] := va_S.rf
  have o_pj := kOKr hOK hpj
  have hx := B.exec
  have hb := B.bytes
  have hr9 := B.returns
  have hts := atoms_spec (ws := ww_X3_dayOf) B.pre
  have hown : s.vm.findClass RX3 = some m.cls := findClass_of_methodNamed B.named
  have hlocks := B.notSynchronized
  have hl := lv_entry ([.ref (r0 2 pj), .int (iZ yy)]) (n := 2) (Nat.le_of_ble_eq_true rfl)
  rw [lg_entry_eq]
  generalize (lg_sl ([.ref (r0 2 pj), .int (iZ yy)]) ++ List.replicate (2 - (lg_sl ([.ref (r0 2 pj), .int (iZ yy)])).length) Slot.unset).toArray = ls at hl ⊢
  have hl : lv_has ls 2 [(0, .ref (r0 2 pj)), (1, .int (iZ yy))] := hl
  refine lv_iconst (v := iZ 3) hx hb dX3_dayOf_0 rfl ?_
  refine kz_newI (N := 3) hx hb (hts _ (List.mem_cons_of_mem _ mw95)) hM.1 hP hD hS kAy_new (by decide) (Nat.le_of_ble_eq_true rfl) (Nat.le_of_ble_eq_true rfl) dX3_dayOf_1 (fun v_1 H hP hD hS => ?_)
  have hP : va_P (dC, dI) vwCl (kY dA m0 r0 σ (th) ++ ([(v_1, .inl (dA 0, 3, .inl (fun _ => 0)))] : va_W)) _ := hP
  have hD : va_D (kAy m0 r0 s.heap.size) (kY dA m0 r0 σ (th) ++ ([(v_1, .inl (dA 0, 3, .inl (fun _ => 0)))] : va_W)) := hD
  refine lv_dup hx hb dX3_dayOf_3 rfl ?_
  refine lv_iconst (v := iZ 0) hx hb dX3_dayOf_4 rfl ?_
  refine lv_iload_n hx hb dX3_dayOf_5 rfl (lv_at hl 1 rfl) ?_
  refine kz_iast hx hb hM.1 hP hD hS 17 rfl (by omega) (by decide) dX3_dayOf_6 (fun H locs hP hD hS => ?_)
  have hP : va_P (dC, dI) vwCl (kY dA m0 r0 σ (th) ++ ([(v_1, .inl (dA 0, 3, .inl (upd (fun _ => 0) 0 (iZ yy))))] : va_W)) _ := hP
  have hD : va_D (kAy m0 r0 s.heap.size) (kY dA m0 r0 σ (th) ++ ([(v_1, .inl (dA 0, 3, .inl (upd (fun _ => 0) 0 (iZ yy))))] : va_W)) := hD
  refine lv_dup hx hb dX3_dayOf_7 rfl ?_
  refine lv_iconst (v := iZ 1) hx hb dX3_dayOf_8 rfl ?_
  refine lv_aload_n hx hb dX3_dayOf_9 rfl (lv_at hl 0 rfl) ?_
  refine lv_iconst (v := iZ 0) hx hb dX3_dayOf_10 rfl ?_
  refine kz_iald (v := σ 3 pj) hx hb hM.1 hP (9 + pj) 0 (kY_F _ hpj) rfl (by omega) (by decide) rfl dX3_dayOf_11 ?_
  refine kz_iast hx hb hM.1 hP hD hS 17 rfl (by omega) (by decide) dX3_dayOf_12 (fun H locs hP hD hS => ?_)
  have hP : va_P (dC, dI) vwCl (kY dA m0 r0 σ (th) ++ ([(v_1, .inl (dA 0, 3, .inl (upd (upd (fun _ => 0) 0 (iZ yy)) 1 (iZ (σ 3 pj)))))] : va_W)) _ := hP
  have hD : va_D (kAy m0 r0 s.heap.size) (kY dA m0 r0 σ (th) ++ ([(v_1, .inl (dA 0, 3, .inl (upd (upd (fun _ => 0) 0 (iZ yy)) 1 (iZ (σ 3 pj)))))] : va_W)) := hD
  refine lv_dup hx hb dX3_dayOf_13 rfl ?_
  refine lv_iconst (v := iZ 2) hx hb dX3_dayOf_14 rfl ?_
  refine lv_aload_n hx hb dX3_dayOf_15 rfl (lv_at hl 0 rfl) ?_
  refine lv_iload_n hx hb dX3_dayOf_16 rfl (lv_at hl 1 rfl) ?_
  refine kz_i2l hx hb (by omega) dX3_dayOf_17 ?_
  refine kc0 (fun _ q => q) (va_runS (As := [.ref (r0 2 pj), .long (lZ (yy))]) (rest := [.int (iZ 2), .ref v_1, .ref v_1]) ⟨hx, hb, hml, hown, hts⟩ (c_X3_isInNow l dC dI dA k _ _ hP (9 + pj) (r0 2 pj) _ (σ 3 pj) (σ 4 pj) (yy) (kY_F _ hpj) rfl rfl (by omega) (by omega) (by omega)) (va_cwS 2 hts (kg_S mw1243 mw1244 mw47 rfl mw1245) rfl rfl rfl (by decide +kernel) ⟨Nat.le_of_ble_eq_true rfl, Nat.le_of_ble_eq_true rfl⟩) ⟨fun a U g mk q => ⟨q.1, q.2.1, kM_call q.2.2⟩, fun U hU hW => ⟨rfl, hU, kM_kept hM hS hAN hU hW⟩⟩ rfl rfl hl.1 rfl (lv_room (Nat.le_of_ble_eq_true rfl)) dX3_dayOf_18 ⟨Nat.le_of_ble_eq_true rfl, Nat.le_of_ble_eq_true rfl⟩) ?_
  refine kz_ifb_eq (tgt := 30) hx hb  dX3_dayOf_21 (by decide) (fun c_2 => ?_) (fun c_2 => ?_)
  · refine lv_bipush (v := iZ 28) hx hb dX3_dayOf_30 rfl ?_
    refine kz_iast hx hb hM.1 hP hD hS 17 rfl (by omega) (by decide) dX3_dayOf_32 (fun H locs hP hD hS => ?_)
    have hP : va_P (dC, dI) vwCl (kY dA m0 r0 σ (th) ++ ([(v_1, .inl (dA 0, 3, .inl (upd (upd (upd (fun _ => 0) 0 (iZ yy)) 1 (iZ (σ 3 pj))) 2 (iZ 28))))] : va_W)) _ := hP
    have hD : va_D (kAy m0 r0 s.heap.size) (kY dA m0 r0 σ (th) ++ ([(v_1, .inl (dA 0, 3, .inl (upd (upd (upd (fun _ => 0) 0 (iZ yy)) 1 (iZ (σ 3 pj))) 2 (iZ 28))))] : va_W)) := hD
    have hP : va_P (dC, dI) vwCl (kY dA m0 r0 σ th ++ ([(v_1, .inl (dA 0, 3, .inl (row3 yy ((σ 3 pj)) 28)))] : va_W)) _ := hP
    exact W.aret (rt := .array .int) hx hb hr9 (Or.inr ⟨_, rfl⟩) (Or.inr ⟨_, rfl⟩) (fun t ht hW => ⟨v_1, ⟨rfl, by rw [ht]; exact kQN_e hP (by unfold dayIn; simp only [← inYr_eq hOK hpj, c_2]; first | done | rfl), hsz⟩, hS.F ht⟩) (fun q hq => hS.2.2 q hq) dX3_dayOf_33 hlocks
  · refine lv_aload_n hx hb dX3_dayOf_24 rfl (lv_at hl 0 rfl) ?_
    refine lv_iconst (v := iZ 1) hx hb dX3_dayOf_25 rfl ?_
    refine kz_iald (v := σ 4 pj) hx hb hM.1 hP (9 + pj) 0 (kY_F _ hpj) rfl (by omega) (by decide) rfl dX3_dayOf_26 ?_
    refine lv_goto (tgt := 32) hx hb dX3_dayOf_27 (by decide) ?_
    refine kz_iast hx hb hM.1 hP hD hS 17 rfl (by omega) (by decide) dX3_dayOf_32 (fun H locs hP hD hS => ?_)
    have hP : va_P (dC, dI) vwCl (kY dA m0 r0 σ (th) ++ ([(v_1, .inl (dA 0, 3, .inl (upd (upd (upd (fun _ => 0) 0 (iZ yy)) 1 (iZ (σ 3 pj))) 2 (iZ (σ 4 pj)))))] : va_W)) _ := hP
    have hD : va_D (kAy m0 r0 s.heap.size) (kY dA m0 r0 σ (th) ++ ([(v_1, .inl (dA 0, 3, .inl (upd (upd (upd (fun _ => 0) 0 (iZ yy)) 1 (iZ (σ 3 pj))) 2 (iZ (σ 4 pj)))))] : va_W)) := hD
    have hP : va_P (dC, dI) vwCl (kY dA m0 r0 σ th ++ ([(v_1, .inl (dA 0, 3, .inl (row3 yy ((σ 3 pj)) ((σ 4 pj)))))] : va_W)) _ := hP
    exact W.aret (rt := .array .int) hx hb hr9 (Or.inr ⟨_, rfl⟩) (Or.inr ⟨_, rfl⟩) (fun t ht hW => ⟨v_1, ⟨rfl, by rw [ht]; exact kQN_e hP (by unfold dayIn; simp only [← inYr_eq hOK hpj, c_2]; first | done | rfl), hsz⟩, hS.F ht⟩) (fun q hq => hS.2.2 q hq) dX3_dayOf_33 hlocks

abbrev ww_X3_dayOfFeast : List Cond := .code yX3_dayOfFeast cX3_dayOfFeast 4 (some .int) :: gT
set_option maxHeartbeats 4000000 in
set_option maxRecDepth 100000 in
theorem c_X3_dayOfFeast (l : Launch) (dC : Nat → ClassId) (dI : Nat → Nat → Nat) (dA : Nat → ClassId) (k : Nat → Nat) (m0 : Nat) (r0 : Nat → Nat → Nat) (σ : Nat → Nat → Int) (th : Int) (H0 : Heap) (hP : va_P (dC, dI) vwCl (kY dA m0 r0 σ th) H0) (hr : kRI m0 r0 k) (hOK : kOK σ) (z1 : Int) (z2 : Int) (yy : Int) (rz1 : -2147483648 ≤ z1 ∧ z1 < 2147483648) (rz2 : -2147483648 ≤ z2 ∧ z2 < 2147483648) (ryy : -2147483648 ≤ yy ∧ yy < 2147483648) : Met l yX3_dayOfFeast ww_X3_dayOfFeast ({ frames := 6, cells := 1, slots := 3, locals := 133 }) (va_Pc [.ref m0, .int (iZ z1), .int (iZ z2), .int (iZ yy)] (fun U => U.heap = H0 ∧ kM dC dI dA k U)) (kQ2 (some (.int (iZ (if ex2 (!inb z1 0 3 || !inb z2 0 3) (!inb yy (-999999999) 999999999) = 0 then (1 + (dnum yy (σ 3 (z2.toNat)) (dayIn σ (z2.toNat) yy) + 3) % 7) else 0)))) (gY dC dI dA k m0 r0 H0.size (if ex2 (!inb z1 0 3 || !inb z2 0 3) (!inb yy (-999999999) 999999999) = 0 then (setD σ (z1.toNat) yy (σ 3 (z2.toNat)) (dayIn σ (z2.toNat) yy)) else σ) (ex2 (!inb z1 0 3 || !inb z2 0 3) (!inb yy (-999999999) 999999999))) (kAy m0 r0 H0.size)) 1 3 (kAy m0 r0 H0.size) := by
  refine Met.ofW (cc := cX3_dayOfFeast) (maxL := 4) (ret := (some .int)) (by decide) rfl ?_
  intro p e s m args below meth c s₁ B hml hv
  obtain ⟨rfl, hH, hM⟩ := hv
  subst hH
  have hr0 := hr
  have hAN : ∀ a, kAy m0 r0 s.heap.size a → k 0 ≤ a := fun a h => kAy_N hr0 hM.2.1.1 a h
  have hrA : ∀ i : Nat, i < 17 → kAy m0 r0 s.heap.size (kR m0 r0 i) := fun i hi => Or.inl ⟨i, hi, rfl⟩
  have hD : va_D (kAy m0 r0 s.heap.size) (kY dA m0 r0 σ (th) ++ ([] : va_W)) := by rw [← kap]; exact kYD_A hr hrA
  have hP : va_P (dC, dI) vwCl (kY dA m0 r0 σ (th) ++ ([] : va_W)) s.heap := hP
  have hS : va_S (kAy m0 r0 s.heap.size) s.heap s.heap [] := va_S.rf
  have hx := B.exec
  have hb := B.bytes
  have hr9 := B.returns
  have hts := atoms_spec (ws := ww_X3_dayOfFeast) B.pre
  have hown : s.vm.findClass RX3 = some m.cls := findClass_of_methodNamed B.named
  have hlocks := B.notSynchronized
  have hl := lv_entry ([.ref m0, .int (iZ z1), .int (iZ z2), .int (iZ yy)]) (n := 4) (Nat.le_of_ble_eq_true rfl)
  rw [lg_entry_eq]
  generalize (lg_sl ([.ref m0, .int (iZ z1), .int (iZ z2), .int (iZ yy)]) ++ List.replicate (4 - (lg_sl ([.ref m0, .int (iZ z1), .int (iZ z2), .int (iZ yy)])).length) Slot.unset).toArray = ls at hl ⊢
  have hl : lv_has ls 4 [(0, .ref m0), (1, .int (iZ z1)), (2, .int (iZ z2)), (3, .int (iZ yy))] := hl
  refine lv_aload_n hx hb dX3_dayOfFeast_0 rfl (lv_at hl 0 rfl) ?_
  refine lv_iload_n hx hb dX3_dayOfFeast_1 rfl (lv_at hl 1 rfl) ?_
  refine kc0 (fun _ q => q) (va_runS (As := [.int (iZ z1)]) (rest := [.ref m0]) ⟨hx, hb, hml, hown, hts⟩ (c_X3_isNo l _ (z1) (by first | omega | (have := dayIn_ok hOK hp2 yy; first | omega | (simp only [sU]; simp; omega)))) (va_cwS 1 hts (kg_S mw1021 mw1022 mw47 rfl mw1023) rfl rfl rfl (by decide +kernel) ⟨Nat.le_of_ble_eq_true rfl, Nat.le_of_ble_eq_true rfl⟩) ⟨fun a U g mk q => q, fun U hU hW => ⟨rfl, hU⟩⟩ rfl rfl hl.1 rfl (lv_room (Nat.le_of_ble_eq_true rfl)) dX3_dayOfFeast_2 ⟨Nat.le_of_ble_eq_true rfl, Nat.le_of_ble_eq_true rfl⟩) ?_
  refine kz_ifb_ne (tgt := 15) hx hb  dX3_dayOfFeast_5 (by decide) (fun c_1 => ?_) (fun c_1 => ?_)
  · refine lv_iconst (v := iZ 1) hx hb dX3_dayOfFeast_15 rfl ?_
    refine lv_goto (tgt := 20) hx hb dX3_dayOfFeast_16 (by decide) ?_
    refine lv_iload_n hx hb dX3_dayOfFeast_20 rfl (lv_at hl 3 rfl) ?_
    refine kz_i2l hx hb (by first | omega | (have := dayIn_ok hOK hp2 yy; first | omega | (simp only [sU]; simp; omega))) dX3_dayOfFeast_21 ?_
    refine kc0 (fun _ q => q) (va_runS (As := [.long (lZ (yy))]) (rest := [.int (iZ 1), .ref m0]) ⟨hx, hb, hml, hown, hts⟩ (c_X3_isNoYear l _ (yy) (by first | omega | (have := dayIn_ok hOK hp2 yy; first | omega | (simp only [sU]; simp; omega)))) (va_cwS 1 hts (kg_S mw1028 mw1029 mw47 rfl mw1030) rfl rfl rfl (by decide +kernel) ⟨Nat.le_of_ble_eq_true rfl, Nat.le_of_ble_eq_true rfl⟩) ⟨fun a U g mk q => q, fun U hU hW => ⟨rfl, hU⟩⟩ rfl rfl hl.1 rfl (lv_room (Nat.le_of_ble_eq_true rfl)) dX3_dayOfFeast_22 ⟨Nat.le_of_ble_eq_true rfl, Nat.le_of_ble_eq_true rfl⟩) ?_
    refine kc2 (va_runV (As := [.int (iZ (bZ true)), .int (iZ (bZ (!inb ((yy)) (-999999999) 999999999)))]) (rest := []) ⟨hx, hb, hml, hown, hts⟩ (c_X3_fails l dC dI dA k m0 (r0) (σ) (th) _ (va_Pl hP) hr hOK true (!inb ((yy)) (-999999999) 999999999) ) (cwV 2 hts (kg_V mw1037 mw1038 mw27 mw47 rfl mw1039) rfl rfl rfl (by decide +kernel) ⟨Nat.le_of_ble_eq_true rfl, Nat.le_of_ble_eq_true rfl⟩) ⟨fun a U g mk q => ⟨q.1, q.2.1, kM_call q.2.2⟩, va_recv hM.1 hP (ci := 6) (q0 := 0) rfl rfl, fun U hU hW => ⟨rfl, hU, kM_kept hM hS hAN hU hW⟩⟩ rfl rfl hl.1 rfl (lv_room (Nat.le_of_ble_eq_true rfl)) dX3_dayOfFeast_25 ⟨Nat.le_of_ble_eq_true rfl, Nat.le_of_ble_eq_true rfl⟩) hS (fun a _ h => kAy_tr hrA hS.1 a h) (fun a h => kAy_tr hrA hS.1 a h) (fun H locs hP hz9 hk9 hS => ?_)
    have hP : va_P (dC, dI) vwCl (kY dA m0 r0 σ (ex2 true ((!inb ((yy)) (-999999999) 999999999))) ++ ([] : va_W)) _ := hP
    have hD : va_D (kAy m0 r0 s.heap.size) (kY dA m0 r0 σ (ex2 true ((!inb ((yy)) (-999999999) 999999999))) ++ ([] : va_W)) := by rw [← kap]; exact kYD_A hr hrA
    refine kz_ifb_eq (tgt := 33) hx hb  dX3_dayOfFeast_28 (by decide) (fun c_2 => absurd (kf_f c_2).1 (by decide)) (fun c_2 => ?_)
    have hX : ex2 (!inb z1 0 3 || !inb z2 0 3) (!inb yy (-999999999) 999999999) = ex2 true (!inb ((yy)) (-999999999) 999999999) := by first | rfl | simp only [c_1, Bool.true_or, Bool.or_true, Bool.false_or, Bool.or_false, Bool.not_true, Bool.not_false]
    have hN : ¬ ex2 (!inb z1 0 3 || !inb z2 0 3) (!inb yy (-999999999) 999999999) = 0 := kf_ne hX c_2
    refine lv_iconst (v := iZ 0) hx hb dX3_dayOfFeast_31 rfl ?_
    refine W.widen (k := 1) (n := 3) (Nat.le_of_ble_eq_true rfl) (Nat.le_of_ble_eq_true rfl) ?_
    exact W.iret (v := iZ 0) hx hb hr9 (fun t ht hW => ⟨⟨congrArg (fun z : Int => Outcome.returned (some (Value.int (iZ z)))) (show 0 = (if ex2 (!inb z1 0 3 || !inb z2 0 3) (!inb yy (-999999999) 999999999) = 0 then (1 + (dnum yy (σ 3 (z2.toNat)) (dayIn σ (z2.toNat) yy) + 3) % 7) else 0) from by rw [if_neg hN]), gY_cast ⟨r0, hr, hrA, by rw [ht]; exact va_Pl hP⟩ (show (σ) = (if ex2 (!inb z1 0 3 || !inb z2 0 3) (!inb yy (-999999999) 999999999) = 0 then (setD σ (z1.toNat) yy (σ 3 (z2.toNat)) (dayIn σ (z2.toNat) yy)) else σ) from by rw [if_neg hN]) (show (ex2 true ((!inb ((yy)) (-999999999) 999999999))) = ex2 (!inb z1 0 3 || !inb z2 0 3) (!inb yy (-999999999) 999999999) from hX.symm)⟩, hS.F ht⟩) hS.2.2 dX3_dayOfFeast_32
  · refine lv_iload_n hx hb dX3_dayOfFeast_8 rfl (lv_at hl 2 rfl) ?_
    refine kc0 (fun _ q => q) (va_runS (As := [.int (iZ z2)]) (rest := [.ref m0]) ⟨hx, hb, hml, hown, hts⟩ (c_X3_isNo l _ (z2) (by first | omega | (have := dayIn_ok hOK hp2 yy; first | omega | (simp only [sU]; simp; omega)))) (va_cwS 1 hts (kg_S mw1021 mw1022 mw47 rfl mw1023) rfl rfl rfl (by decide +kernel) ⟨Nat.le_of_ble_eq_true rfl, Nat.le_of_ble_eq_true rfl⟩) ⟨fun a U g mk q => q, fun U hU hW => ⟨rfl, hU⟩⟩ rfl rfl hl.1 rfl (lv_room (Nat.le_of_ble_eq_true rfl)) dX3_dayOfFeast_9 ⟨Nat.le_of_ble_eq_true rfl, Nat.le_of_ble_eq_true rfl⟩) ?_
    refine kz_ifb_eq (tgt := 19) hx hb  dX3_dayOfFeast_12 (by decide) (fun c_3 => ?_) (fun c_3 => ?_)
    · refine lv_iconst (v := iZ 0) hx hb dX3_dayOfFeast_19 rfl ?_
      refine lv_iload_n hx hb dX3_dayOfFeast_20 rfl (lv_at hl 3 rfl) ?_
      refine kz_i2l hx hb (by first | omega | (have := dayIn_ok hOK hp2 yy; first | omega | (simp only [sU]; simp; omega))) dX3_dayOfFeast_21 ?_
      refine kc0 (fun _ q => q) (va_runS (As := [.long (lZ (yy))]) (rest := [.int (iZ 0), .ref m0]) ⟨hx, hb, hml, hown, hts⟩ (c_X3_isNoYear l _ (yy) (by first | omega | (have := dayIn_ok hOK hp2 yy; first | omega | (simp only [sU]; simp; omega)))) (va_cwS 1 hts (kg_S mw1028 mw1029 mw47 rfl mw1030) rfl rfl rfl (by decide +kernel) ⟨Nat.le_of_ble_eq_true rfl, Nat.le_of_ble_eq_true rfl⟩) ⟨fun a U g mk q => q, fun U hU hW => ⟨rfl, hU⟩⟩ rfl rfl hl.1 rfl (lv_room (Nat.le_of_ble_eq_true rfl)) dX3_dayOfFeast_22 ⟨Nat.le_of_ble_eq_true rfl, Nat.le_of_ble_eq_true rfl⟩) ?_
      refine kc2 (va_runV (As := [.int (iZ (bZ false)), .int (iZ (bZ (!inb ((yy)) (-999999999) 999999999)))]) (rest := []) ⟨hx, hb, hml, hown, hts⟩ (c_X3_fails l dC dI dA k m0 (r0) (σ) (th) _ (va_Pl hP) hr hOK false (!inb ((yy)) (-999999999) 999999999) ) (cwV 2 hts (kg_V mw1037 mw1038 mw27 mw47 rfl mw1039) rfl rfl rfl (by decide +kernel) ⟨Nat.le_of_ble_eq_true rfl, Nat.le_of_ble_eq_true rfl⟩) ⟨fun a U g mk q => ⟨q.1, q.2.1, kM_call q.2.2⟩, va_recv hM.1 hP (ci := 6) (q0 := 0) rfl rfl, fun U hU hW => ⟨rfl, hU, kM_kept hM hS hAN hU hW⟩⟩ rfl rfl hl.1 rfl (lv_room (Nat.le_of_ble_eq_true rfl)) dX3_dayOfFeast_25 ⟨Nat.le_of_ble_eq_true rfl, Nat.le_of_ble_eq_true rfl⟩) hS (fun a _ h => kAy_tr hrA hS.1 a h) (fun a h => kAy_tr hrA hS.1 a h) (fun H locs hP hz9 hk9 hS => ?_)
      have hP : va_P (dC, dI) vwCl (kY dA m0 r0 σ (ex2 false ((!inb ((yy)) (-999999999) 999999999))) ++ ([] : va_W)) _ := hP
      have hD : va_D (kAy m0 r0 s.heap.size) (kY dA m0 r0 σ (ex2 false ((!inb ((yy)) (-999999999) 999999999))) ++ ([] : va_W)) := by rw [← kap]; exact kYD_A hr hrA
      refine kz_ifb_eq (tgt := 33) hx hb  dX3_dayOfFeast_28 (by decide) (fun c_4 => ?_) (fun c_4 => ?_)
      · have hX : ex2 (!inb z1 0 3 || !inb z2 0 3) (!inb yy (-999999999) 999999999) = ex2 false (!inb ((yy)) (-999999999) 999999999) := by first | rfl | simp only [c_1, c_3, Bool.true_or, Bool.or_true, Bool.false_or, Bool.or_false, Bool.not_true, Bool.not_false]
        have hZ : ex2 (!inb z1 0 3 || !inb z2 0 3) (!inb yy (-999999999) 999999999) = 0 := kf_eq hX c_4
        obtain ⟨hA9, hB9⟩ := ex2_z hZ
        simp only [Bool.or_eq_false_iff, Bool.not_eq_false', Bool.not_eq_true', inb, decide_eq_true_eq, decide_eq_false_iff_not, noThing_niff] at hA9
        simp only [Bool.or_eq_false_iff, Bool.not_eq_false', Bool.not_eq_true', inb, decide_eq_true_eq, decide_eq_false_iff_not, noThing_niff] at hB9
        obtain ⟨p1, hp1, rfl⟩ : ∃ p1 : Nat, p1 < 4 ∧ z1 = (p1 : Int) := ⟨z1.toNat, by omega, by omega⟩
        have o_p1 := kOKr hOK hp1
        have l_p1 := mlen_rng (leap (σ 0 p1)) (σ 1 p1)
        have n_p1 := dnum_rng (y := σ 5 p1) (m := σ 6 p1) (d := σ 7 p1) (by omega) (by omega) (by omega)
        obtain ⟨p2, hp2, rfl⟩ : ∃ p2 : Nat, p2 < 4 ∧ z2 = (p2 : Int) := ⟨z2.toNat, by omega, by omega⟩
        have o_p2 := kOKr hOK hp2
        have l_p2 := mlen_rng (leap (σ 0 p2)) (σ 1 p2)
        have n_p2 := dnum_rng (y := σ 5 p2) (m := σ 6 p2) (d := σ 7 p2) (by omega) (by omega) (by omega)
        have hP := kY0 hP (kf_e c_4)
        have hD := kD0 hD (kf_e c_4)
        refine lv_aload_n hx hb dX3_dayOfFeast_33 rfl (lv_at hl 0 rfl) ?_
        refine va_get (D := (dC, dI)) (ci := 6) (v := .ref (r0 0 4)) (C := RX3) (T := TX3) (N := 6) hx hb hts (fun w h => List.mem_cons_of_mem _ (gF_2_in h)) hown hM.1 hP 0 rfl rfl 3 (by decide) (hts _ (List.mem_cons_of_mem _ mw1010)) (fun _ h9 => h9) rfl dX3_dayOfFeast_34 ?_
        refine lv_iload_n hx hb dX3_dayOfFeast_37 rfl (lv_at hl 1 rfl) ?_
        refine lv_aload_n hx hb dX3_dayOfFeast_38 rfl (lv_at hl 0 rfl) ?_
        refine va_get (D := (dC, dI)) (ci := 6) (v := .ref (r0 0 3)) (C := RX3) (T := TX3) (N := 6) hx hb hts (fun w h => List.mem_cons_of_mem _ (gF_2_in h)) hown hM.1 hP 0 rfl rfl 2 (by decide) (hts _ (List.mem_cons_of_mem _ mw1009)) (fun _ h9 => h9) rfl dX3_dayOfFeast_39 ?_
        refine lv_iload_n hx hb dX3_dayOfFeast_42 rfl (lv_at hl 2 rfl) ?_
        refine kz_aald (v := r0 2 p2) hx hb hM.1 hP 3 rfl (by omega) (by decide) rfl dX3_dayOfFeast_43 ?_
        refine lv_iload_n hx hb dX3_dayOfFeast_44 rfl (lv_at hl 3 rfl) ?_
        refine kcN (va_runS (As := [.ref (r0 2 p2), .int (iZ yy)]) (rest := [.int (iZ ((p1 : Nat) : Int)), .ref (r0 0 4)]) ⟨hx, hb, hml, hown, hts⟩ (c_X3_dayOf l dC dI dA k m0 r0 (σ) (0) _ (va_Pl hP) hr hOK p2 yy hp2 (by omega)) (va_cwS 2 hts (kg_S mw1240 mw1241 mw47 rfl mw1242) rfl rfl rfl (by decide +kernel) ⟨Nat.le_of_ble_eq_true rfl, Nat.le_of_ble_eq_true rfl⟩) ⟨fun a U g mk q => ⟨q.1, q.2.1, kM_call q.2.2⟩, fun U hU hW => ⟨rfl, hU, kM_kept hM hS hAN hU hW⟩⟩ rfl rfl hl.1 rfl (lv_room (Nat.le_of_ble_eq_true rfl)) dX3_dayOfFeast_45 ⟨Nat.le_of_ble_eq_true rfl, Nat.le_of_ble_eq_true rfl⟩) hS (by rw [kap]; exact hD) (va_Pl hP) (fun a _ h => kAy_tr hrA hS.1 a h) (fun a h => kAy_tr hrA hS.1 a h) (fun a h => kAy_new a h) (fun v_5 H locs hP hD hS => ?_)
        have hP : va_P (dC, dI) vwCl (kY dA m0 r0 σ (0) ++ ([(v_5, .inl (dA 0, 3, .inl (row3 yy (σ 3 p2) (dayIn σ p2 yy))))] : va_W)) _ := hP
        have hD : va_D (kAy m0 r0 s.heap.size) (kY dA m0 r0 σ (0) ++ ([(v_5, .inl (dA 0, 3, .inl (row3 yy (σ 3 p2) (dayIn σ p2 yy))))] : va_W)) := hD
        have hf9 := kfreshY hD
        have hv9 : kAy m0 r0 s.heap.size v_5 := hD.2 17 _ rfl
        refine kz_aast hx hb hM.1 hM.2.2 hP hD hS 4 17 rfl rfl (by omega) (by decide) dX3_dayOfFeast_48 (fun H locs hP hD hS => ?_)
        have hP := kys_D (y1 := yy) (m1 := σ 3 p2) (d1 := dayIn σ p2 yy) hp1 hP
        have hrA := kup_A (b := 3) (by decide) hp1 hrA hv9
        have hr := kRI_up (b := 3) hr (by decide) hp1 (hAN _ hv9) hf9
        have hD : va_D (kAy m0 r0 s.heap.size) (kY dA m0 (upN r0 3 p1 v_5) (sU (sU (sU (σ) 5 p1 yy) 6 p1 (σ 3 p2)) 7 p1 (dayIn σ p2 yy)) (0) ++ ([] : va_W)) := by rw [← kap]; exact kYD_A hr hrA
        have hP : va_P (dC, dI) vwCl (kY dA m0 (upN r0 3 p1 v_5) (sU (sU (sU (σ) 5 p1 yy) 6 p1 (σ 3 p2)) 7 p1 (dayIn σ p2 yy)) (0) ++ ([] : va_W)) _ := hP
        refine lv_aload_n hx hb dX3_dayOfFeast_49 rfl (lv_at hl 0 rfl) ?_
        refine va_get (D := (dC, dI)) (ci := 6) (v := .ref ((upN r0 3 p1 v_5) 0 4)) (C := RX3) (T := TX3) (N := 6) hx hb hts (fun w h => List.mem_cons_of_mem _ (gF_2_in h)) hown hM.1 hP 0 rfl rfl 3 (by decide) (hts _ (List.mem_cons_of_mem _ mw1010)) (fun _ h9 => h9) rfl dX3_dayOfFeast_50 ?_
        refine lv_iload_n hx hb dX3_dayOfFeast_53 rfl (lv_at hl 1 rfl) ?_
        refine kz_aald (v := (upN r0 3 p1 v_5) 3 p1) hx hb hM.1 hP 4 rfl (by omega) (by decide) rfl dX3_dayOfFeast_54 ?_
        refine kc0 (fun _ q => q) (va_runS (As := [.ref ((upN r0 3 p1 v_5) 3 p1)]) (rest := []) ⟨hx, hb, hml, hown, hts⟩ (c_X3_weekday l dC dI dA k _ _ hP (13 + p1) ((upN r0 3 p1 v_5) 3 p1) _ ((sU (sU (sU (σ) 5 p1 yy) 6 p1 (σ 3 p2)) 7 p1 (dayIn σ p2 yy)) 5 p1) ((sU (sU (sU (σ) 5 p1 yy) 6 p1 (σ 3 p2)) 7 p1 (dayIn σ p2 yy)) 6 p1) ((sU (sU (sU (σ) 5 p1 yy) 6 p1 (σ 3 p2)) 7 p1 (dayIn σ p2 yy)) 7 p1) (kY_D _ hp1) rfl rfl rfl (by first | omega | (have := dayIn_ok hOK hp2 yy; first | omega | (simp only [sU]; simp; omega))) (by first | omega | (have := dayIn_ok hOK hp2 yy; first | omega | (simp only [sU]; simp; omega))) (by first | omega | (have := dayIn_ok hOK hp2 yy; first | omega | (simp only [sU]; simp; omega)))) (va_cwS 1 hts (kg_S mw1214 mw1215 mw47 rfl mw1216) rfl rfl rfl (by decide +kernel) ⟨Nat.le_of_ble_eq_true rfl, Nat.le_of_ble_eq_true rfl⟩) ⟨fun a U g mk q => ⟨q.1, q.2.1, kM_call q.2.2⟩, fun U hU hW => ⟨rfl, hU, kM_kept hM hS hAN hU hW⟩⟩ rfl rfl hl.1 rfl (lv_room (Nat.le_of_ble_eq_true rfl)) dX3_dayOfFeast_55 ⟨Nat.le_of_ble_eq_true rfl, Nat.le_of_ble_eq_true rfl⟩) ?_
        refine W.widen (k := 1) (n := 3) (Nat.le_of_ble_eq_true rfl) (Nat.le_of_ble_eq_true rfl) ?_
        exact W.iret (v := iZ (1 + (dnum (((sU (sU (sU (σ) 5 p1 yy) 6 p1 (σ 3 p2)) 7 p1 (dayIn σ p2 yy)) 5 p1)) (((sU (sU (sU (σ) 5 p1 yy) 6 p1 (σ 3 p2)) 7 p1 (dayIn σ p2 yy)) 6 p1)) (((sU (sU (sU (σ) 5 p1 yy) 6 p1 (σ 3 p2)) 7 p1 (dayIn σ p2 yy)) 7 p1)) + 3) % 7)) hx hb hr9 (fun t ht hW => ⟨⟨congrArg (fun z : Int => Outcome.returned (some (Value.int (iZ z)))) (show (1 + (dnum (((sU (sU (sU (σ) 5 p1 yy) 6 p1 (σ 3 p2)) 7 p1 (dayIn σ p2 yy)) 5 p1)) (((sU (sU (sU (σ) 5 p1 yy) 6 p1 (σ 3 p2)) 7 p1 (dayIn σ p2 yy)) 6 p1)) (((sU (sU (sU (σ) 5 p1 yy) 6 p1 (σ 3 p2)) 7 p1 (dayIn σ p2 yy)) 7 p1)) + 3) % 7) = (if ex2 (!inb ((p1 : Nat) : Int) 0 3 || !inb ((p2 : Nat) : Int) 0 3) (!inb yy (-999999999) 999999999) = 0 then (1 + (dnum yy (σ 3 p2) (dayIn σ p2 yy) + 3) % 7) else 0) from by rw [if_pos hZ]; simp only [sU]; simp), gY_cast ⟨upN r0 3 p1 v_5, hr, hrA, by rw [ht]; exact va_Pl hP⟩ (show (sU (sU (sU (σ) 5 p1 yy) 6 p1 (σ 3 p2)) 7 p1 (dayIn σ p2 yy)) = (if ex2 (!inb ((p1 : Nat) : Int) 0 3 || !inb ((p2 : Nat) : Int) 0 3) (!inb yy (-999999999) 999999999) = 0 then (setD σ p1 yy (σ 3 p2) (dayIn σ p2 yy)) else σ) from by rw [if_pos hZ]; done) (show (0) = ex2 (!inb ((p1 : Nat) : Int) 0 3 || !inb ((p2 : Nat) : Int) 0 3) (!inb yy (-999999999) 999999999) from hZ.symm)⟩, hS.F ht⟩) hS.2.2 dX3_dayOfFeast_58
      · have hX : ex2 (!inb z1 0 3 || !inb z2 0 3) (!inb yy (-999999999) 999999999) = ex2 false (!inb ((yy)) (-999999999) 999999999) := by first | rfl | simp only [c_1, c_3, Bool.true_or, Bool.or_true, Bool.false_or, Bool.or_false, Bool.not_true, Bool.not_false]
        have hN : ¬ ex2 (!inb z1 0 3 || !inb z2 0 3) (!inb yy (-999999999) 999999999) = 0 := kf_ne hX c_4
        refine lv_iconst (v := iZ 0) hx hb dX3_dayOfFeast_31 rfl ?_
        refine W.widen (k := 1) (n := 3) (Nat.le_of_ble_eq_true rfl) (Nat.le_of_ble_eq_true rfl) ?_
        exact W.iret (v := iZ 0) hx hb hr9 (fun t ht hW => ⟨⟨congrArg (fun z : Int => Outcome.returned (some (Value.int (iZ z)))) (show 0 = (if ex2 (!inb z1 0 3 || !inb z2 0 3) (!inb yy (-999999999) 999999999) = 0 then (1 + (dnum yy (σ 3 (z2.toNat)) (dayIn σ (z2.toNat) yy) + 3) % 7) else 0) from by rw [if_neg hN]), gY_cast ⟨r0, hr, hrA, by rw [ht]; exact va_Pl hP⟩ (show (σ) = (if ex2 (!inb z1 0 3 || !inb z2 0 3) (!inb yy (-999999999) 999999999) = 0 then (setD σ (z1.toNat) yy (σ 3 (z2.toNat)) (dayIn σ (z2.toNat) yy)) else σ) from by rw [if_neg hN]) (show (ex2 false ((!inb ((yy)) (-999999999) 999999999))) = ex2 (!inb z1 0 3 || !inb z2 0 3) (!inb yy (-999999999) 999999999) from hX.symm)⟩, hS.F ht⟩) hS.2.2 dX3_dayOfFeast_32
    · refine lv_iconst (v := iZ 1) hx hb dX3_dayOfFeast_15 rfl ?_
      refine lv_goto (tgt := 20) hx hb dX3_dayOfFeast_16 (by decide) ?_
      refine lv_iload_n hx hb dX3_dayOfFeast_20 rfl (lv_at hl 3 rfl) ?_
      refine kz_i2l hx hb (by first | omega | (have := dayIn_ok hOK hp2 yy; first | omega | (simp only [sU]; simp; omega))) dX3_dayOfFeast_21 ?_
      refine kc0 (fun _ q => q) (va_runS (As := [.long (lZ (yy))]) (rest := [.int (iZ 1), .ref m0]) ⟨hx, hb, hml, hown, hts⟩ (c_X3_isNoYear l _ (yy) (by first | omega | (have := dayIn_ok hOK hp2 yy; first | omega | (simp only [sU]; simp; omega)))) (va_cwS 1 hts (kg_S mw1028 mw1029 mw47 rfl mw1030) rfl rfl rfl (by decide +kernel) ⟨Nat.le_of_ble_eq_true rfl, Nat.le_of_ble_eq_true rfl⟩) ⟨fun a U g mk q => q, fun U hU hW => ⟨rfl, hU⟩⟩ rfl rfl hl.1 rfl (lv_room (Nat.le_of_ble_eq_true rfl)) dX3_dayOfFeast_22 ⟨Nat.le_of_ble_eq_true rfl, Nat.le_of_ble_eq_true rfl⟩) ?_
      refine kc2 (va_runV (As := [.int (iZ (bZ true)), .int (iZ (bZ (!inb ((yy)) (-999999999) 999999999)))]) (rest := []) ⟨hx, hb, hml, hown, hts⟩ (c_X3_fails l dC dI dA k m0 (r0) (σ) (th) _ (va_Pl hP) hr hOK true (!inb ((yy)) (-999999999) 999999999) ) (cwV 2 hts (kg_V mw1037 mw1038 mw27 mw47 rfl mw1039) rfl rfl rfl (by decide +kernel) ⟨Nat.le_of_ble_eq_true rfl, Nat.le_of_ble_eq_true rfl⟩) ⟨fun a U g mk q => ⟨q.1, q.2.1, kM_call q.2.2⟩, va_recv hM.1 hP (ci := 6) (q0 := 0) rfl rfl, fun U hU hW => ⟨rfl, hU, kM_kept hM hS hAN hU hW⟩⟩ rfl rfl hl.1 rfl (lv_room (Nat.le_of_ble_eq_true rfl)) dX3_dayOfFeast_25 ⟨Nat.le_of_ble_eq_true rfl, Nat.le_of_ble_eq_true rfl⟩) hS (fun a _ h => kAy_tr hrA hS.1 a h) (fun a h => kAy_tr hrA hS.1 a h) (fun H locs hP hz9 hk9 hS => ?_)
      have hP : va_P (dC, dI) vwCl (kY dA m0 r0 σ (ex2 true ((!inb ((yy)) (-999999999) 999999999))) ++ ([] : va_W)) _ := hP
      have hD : va_D (kAy m0 r0 s.heap.size) (kY dA m0 r0 σ (ex2 true ((!inb ((yy)) (-999999999) 999999999))) ++ ([] : va_W)) := by rw [← kap]; exact kYD_A hr hrA
      refine kz_ifb_eq (tgt := 33) hx hb  dX3_dayOfFeast_28 (by decide) (fun c_6 => absurd (kf_f c_6).1 (by decide)) (fun c_6 => ?_)
      have hX : ex2 (!inb z1 0 3 || !inb z2 0 3) (!inb yy (-999999999) 999999999) = ex2 true (!inb ((yy)) (-999999999) 999999999) := by first | rfl | simp only [c_1, c_3, Bool.true_or, Bool.or_true, Bool.false_or, Bool.or_false, Bool.not_true, Bool.not_false]
      have hN : ¬ ex2 (!inb z1 0 3 || !inb z2 0 3) (!inb yy (-999999999) 999999999) = 0 := kf_ne hX c_6
      refine lv_iconst (v := iZ 0) hx hb dX3_dayOfFeast_31 rfl ?_
      refine W.widen (k := 1) (n := 3) (Nat.le_of_ble_eq_true rfl) (Nat.le_of_ble_eq_true rfl) ?_
      exact W.iret (v := iZ 0) hx hb hr9 (fun t ht hW => ⟨⟨congrArg (fun z : Int => Outcome.returned (some (Value.int (iZ z)))) (show 0 = (if ex2 (!inb z1 0 3 || !inb z2 0 3) (!inb yy (-999999999) 999999999) = 0 then (1 + (dnum yy (σ 3 (z2.toNat)) (dayIn σ (z2.toNat) yy) + 3) % 7) else 0) from by rw [if_neg hN]), gY_cast ⟨r0, hr, hrA, by rw [ht]; exact va_Pl hP⟩ (show (σ) = (if ex2 (!inb z1 0 3 || !inb z2 0 3) (!inb yy (-999999999) 999999999) = 0 then (setD σ (z1.toNat) yy (σ 3 (z2.toNat)) (dayIn σ (z2.toNat) yy)) else σ) from by rw [if_neg hN]) (show (ex2 true ((!inb ((yy)) (-999999999) 999999999))) = ex2 (!inb z1 0 3 || !inb z2 0 3) (!inb yy (-999999999) 999999999) from hX.symm)⟩, hS.F ht⟩) hS.2.2 dX3_dayOfFeast_32

