/-- a callee that answers some cell -/
def kQ2r (C : Nat → Heap → Prop) (A : Nat → Prop) : Array Value → State → Outcome → State → Prop := fun _ st oc t => (∃ x : Nat, oc = .returned (some (.ref x)) ∧ C x t.heap) ∧ va_F A st t
def kQ2xr (P : Prop) (C : Nat → Heap → Prop) (A : Nat → Prop) : Array Value → State → Outcome → State → Prop := fun _ st oc t => ((∃ x : Nat, oc = .returned (some (.ref x)) ∧ C x t.heap) ∧ va_F A st t) ∧ P
theorem kMet_noX {l : Launch} {y : MethodName} {ws : List Cond} {rm : Room} {Pc : Array Value → State → Prop} {P : Prop} {v : Option Value} {C : Heap → Prop} {A : Nat → Prop} {X : String → Prop} {mc ms : Nat} {free : Addr → Prop} (h : vx_Met l y ws rm Pc (kQ2x P v C A) (kXC X) mc ms free) (hX : ∀ E, ¬ X E) : Met l y ws rm Pc (kQ2 v C A) mc ms free :=
  MetFree.mono h (fun _ _ q => q) (fun _ _ _ _ _ q => q) (fun a s o t _ q => by
    rcases q with q | ⟨q9, -, hT⟩
    · exact ⟨q.1.1, q.2⟩
    · obtain ⟨E, ce, L9, h1, h2⟩ := hT
      exact absurd h1.1 (hX E))
theorem TL_13 {z : Int} : 1 ≤ TL z := by
  have := ndg_pos z.natAbs
  unfold TL; omega
theorem tq_abs {x y : Int} (hy : 0 < y) : (tq x y).natAbs ≤ x.natAbs := by
  unfold tq
  split
  · rename_i h
    have h1 := Int.ediv_le_self y h
    have h2 := Int.ediv_nonneg h (by omega : 0 ≤ y)
    omega
  · rename_i h
    have h1 := Int.ediv_le_self y (show 0 ≤ -x by omega)
    have h2 := Int.ediv_nonneg (show 0 ≤ -x by omega) (by omega : 0 ≤ y)
    omega
section
variable {p : Program} {l : Launch} {e : Env} {R : Room} {s : State} {m : MethodId} {args : Array Value} {below : List Frame} {meth : Method} {c : Code} {H : Heap} {locs : List Loc} {cells slots : Nat} {Q : State → Prop}
variable {cc : ByteArray} {pc : Nat} {ls : Array Slot} {rest : List Value}
theorem kc2r {a : Array Value} {st0 : List Value} {C : Nat → Heap → Prop} {A0 A1 : Nat → Prop} {H0 : Heap} {free : Addr → Prop} {mc ms : Nat} (hr : va_Run p l e R s m args below meth c H locs cells slots mc ms (F0 m pc ls st0) rest (kQ2r C A1 a) free) (hS : va_S A0 H0 H locs) (hA : ∀ q, q < H.size → A1 q → A0 q) (hf : ∀ q, free q → A0 q)
    (kk : ∀ (x : Nat) (H1 : Heap) (locs1 : List Loc), C x H1 → H.size ≤ H1.size → (∀ q : Nat, q < H.size → ¬ A1 q → H1[q]? = H[q]?) → va_S A0 H0 H1 locs1 → W p l e R s m args below meth c H1 locs1 (cells + mc) (slots + ms) Q (F0 m (pc + 3) ls (.ref x :: rest))) : W p l e R s m args below meth c H locs cells slots Q (F0 m pc ls st0) := by
  intro T hT X
  obtain ⟨v1, st₀, t, T', L, h0, X', hL, e1, e2, ⟨⟨x, hv, hc⟩, hz, hk⟩, st⟩ := hr T hT X
  cases hv
  rw [h0] at hz hk
  obtain ⟨t2, a1, b1⟩ := kk x T'.heap (locs ++ L) (by rw [e1]; exact hc) (by rw [e1]; exact hz) (fun q h1 h2 => by rw [e1]; exact hk q h1 h2)
    ⟨Nat.le_trans hS.1 (by rw [e1]; exact hz), fun q h1 h2 => by rw [e1, hk q (Nat.lt_of_lt_of_le h1 hS.1) (fun z => h2 (hA q (Nat.lt_of_lt_of_le h1 hS.1) z))]; exact hS.2.1 q h1 h2, fun q hq => by
      rcases List.mem_append.mp hq with h | h
      · exact hS.2.2 q h
      · exact hf _ (hL q h)⟩ T' rfl X'
  exact ⟨t2, st t2 a1, b1⟩
theorem kcS {a : Array Value} {st0 : List Value} {dC : Nat → ClassId} {dI : Nat → Nat → Nat} {dA : Nat → ClassId} {b v : Nat} {g : Nat → Int} {tm : Int32} {n : Nat} {A0 : Nat → Prop} {H0 : Heap} {free : Addr → Prop} {mc ms : Nat} (hr : va_Run p l e R s m args below meth c H locs cells slots mc ms (F0 m pc ls st0) rest (kQS dC dI dA b v g tm n a) free) (hS : va_S A0 H0 H locs) (hA : ∀ q, q < H.size → kAB b v H.size q → A0 q) (hf : ∀ q, free q → A0 q)
    (kk : ∀ (q w : Nat) (H1 : Heap) (locs1 : List Loc), H.size ≤ q → H.size ≤ w → q ≠ w → va_P (dC, dI) vwCl (kW b v dA g tm n ++ kS q w dA (cp g (fun _ => 0) n) n) H1 → H.size ≤ H1.size → (∀ q : Nat, q < H.size → ¬ kAB b v H.size q → H1[q]? = H[q]?) → va_S A0 H0 H1 locs1 → W p l e R s m args below meth c H1 locs1 (cells + mc) (slots + ms) Q (F0 m (pc + 3) ls (.ref q :: rest))) : W p l e R s m args below meth c H locs cells slots Q (F0 m pc ls st0) := by
  intro T hT X
  obtain ⟨v1, st₀, t, T', L, h0, X', hL, e1, e2, ⟨q9, w9, ⟨hv, c1, c2, c3, c4⟩, hz, hk⟩, st⟩ := hr T hT X
  cases hv
  rw [h0] at hz hk c1 c2
  obtain ⟨t2, a1, b1⟩ := kk q9 w9 T'.heap (locs ++ L) c1 c2 c3 (by rw [e1]; exact c4) (by rw [e1]; exact hz) (fun q h1 h2 => by rw [e1]; exact hk q h1 h2)
    ⟨Nat.le_trans hS.1 (by rw [e1]; exact hz), fun q h1 h2 => by rw [e1, hk q (Nat.lt_of_lt_of_le h1 hS.1) (fun z => h2 (hA q (Nat.lt_of_lt_of_le h1 hS.1) z))]; exact hS.2.1 q h1 h2, fun q hq => by
      rcases List.mem_append.mp hq with h | h
      · exact hS.2.2 q h
      · exact hf _ (hL q h)⟩ T' rfl X'
  exact ⟨t2, st t2 a1, b1⟩
end
theorem gXt_X {dC : Nat → ClassId} {dI : Nat → Nat → Nat} {dA : Nat → ClassId} {q : Nat → Nat} {σ : Nat → Nat → Int} {z : Int} {H : Heap} (hz : z.natAbs < 10000000000000) (h : gXt dC dI dA q σ z H) : gX dC dI dA q σ H := by
  obtain ⟨g, tm, hg, htm, -, hP⟩ := h
  exact gX_of (by have := TL_rng hz; omega) hg htm hP
theorem va_PrT {D : va_G} {cl : List vw_C} {a b : va_W} {H : Heap} (h : va_P D cl (a ++ b) H) : va_P D cl b H := fun k q hk => h (a.length + k) q (by
  rw [List.getElem?_append_right (Nat.le_add_right _ _), Nat.add_sub_cancel_left]; exact hk)
/-- x is a text of the number z -/
def kTX (dC : Nat → ClassId) (dI : Nat → Nat → Nat) (dA : Nat → ClassId) (z : Int) (x : Nat) (H : Heap) : Prop := ∃ (w : Nat) (g : Nat → Int), TL z ≤ 14 ∧ (∀ j, j < TL z → g j = TX z j) ∧ va_P (dC, dI) vwCl (kS x w dA g (TL z)) H
/-- x is a text of the number z, one that wasn't there when the heap had sz cells -/
def kTS (dC : Nat → ClassId) (dI : Nat → Nat → Nat) (dA : Nat → ClassId) (sz : Nat) (z : Int) (x : Nat) (H : Heap) : Prop := ∃ (w : Nat) (g : Nat → Int), (sz ≤ x ∧ sz ≤ w ∧ x ≠ w) ∧ (∀ j, j < TL z → g j = TX z j) ∧ va_P (dC, dI) vwCl (kS x w dA g (TL z)) H
theorem kTX_b {z : Int} {g : Nat → Int} {j : Nat} (h : g j = TX z j) : -128 ≤ g j ∧ g j < 128 := by
  rw [h]
  have := TX_rng z j
  omega
theorem kTX_e {dC : Nat → ClassId} {dI : Nat → Nat → Nat} {dA : Nat → ClassId} {z z' : Int} {x : Nat} {H : Heap} (e : z = z') (h : kTX dC dI dA z x H) : kTX dC dI dA z' x H := e ▸ h
theorem kTS_kept {dC : Nat → ClassId} {dI : Nat → Nat → Nat} {dA : Nat → ClassId} {sz : Nat} {z : Int} {x : Nat} {H H1 : Heap} (h : kTS dC dI dA sz z x H) (hk : ∀ a : Nat, sz ≤ a → a < H.size → H1[a]? = H[a]?) : kTS dC dI dA sz z x H1 := by
  obtain ⟨w, g, ⟨h1, h2, h3⟩, ht, hP⟩ := h
  exact ⟨w, g, ⟨h1, h2, h3⟩, ht, hP.kept (fun i p hp => by
    match i, hp with
    | 0, hp => cases hp; exact hk _ h1 (hP 0 _ rfl).lt
    | 1, hp => cases hp; exact hk _ h2 (hP 1 _ rfl).lt
    | n + 2, hp => cases hp)⟩
abbrev ww_X1_textOf : List Cond := .code yX1_textOf cX1_textOf 3 (some (.object "java/lang/String")) :: gT
set_option maxHeartbeats 4000000 in
set_option maxRecDepth 100000 in
theorem c_X1_textOf (l : Launch) (dC : Nat → ClassId) (dI : Nat → Nat → Nat) (dA : Nat → ClassId) (k : Nat → Nat) (q : Nat → Nat) (σ : Nat → Nat → Int) (H0 : Heap) (hG : gX dC dI dA q σ H0) (hOK : kOK σ) (hq : kQI q k) (zz : Int) (h0 : zz.natAbs < 10000000000000) : Met l yX1_textOf ww_X1_textOf ({ frames := 7, cells := 2, slots := 20, locals := 191 }) (va_Pc [.ref (q 0), .long (lZ (zz))] (fun U => U.heap = H0 ∧ kMJ dC dI dA k U)) (kQ2r (fun x H => gX dC dI dA q σ H ∧ kTS dC dI dA H0.size (zz) x H) (kA q H0.size)) 2 20 (kA q H0.size) := by
  refine Met.ofW (cc := cX1_textOf) (maxL := 3) (ret := (some (.object "java/lang/String"))) (by decide) rfl ?_
  intro p e s m args below meth c s₁ B hml hv
  obtain ⟨rfl, hH, hMJ⟩ := hv
  subst hH
  have hG0 := hG
  obtain ⟨g, tm, n, hn, hg, htm, hP⟩ := gX_g hG
  have hM := hMJ.1
  have hAN : ∀ a, kA q s.heap.size a → k 0 ≤ a := kA_N hq hM.2.1.1
  have hne78 : q 7 ≠ q 8 := fun z => absurd (hq.1 7 8 (by decide) (by decide) z) (by decide)
  have hk7 := hq.2 7 (by decide)
  have hk8 := hq.2 8 (by decide)
  have hS : va_S (kA q s.heap.size) s.heap s.heap [] := va_S.rf
  have hx := B.exec
  have hb := B.bytes
  have hr9 := B.returns
  have hts := atoms_spec (ws := ww_X1_textOf) B.pre
  have hown : s.vm.findClass RX1 = some m.cls := findClass_of_methodNamed B.named
  have hlocks := B.notSynchronized
  have hl := lv_entry ([.ref (q 0), .long (lZ (zz))]) (n := 3) (Nat.le_of_ble_eq_true rfl)
  rw [lg_entry_eq]
  generalize (lg_sl ([.ref (q 0), .long (lZ (zz))]) ++ List.replicate (3 - (lg_sl ([.ref (q 0), .long (lZ (zz))])).length) Slot.unset).toArray = ls at hl ⊢
  have hl : lv_has ls 3 [(0, .ref (q 0)), (1, .long (lZ (zz)))] := hl
  refine lv_aload_n hx hb dX1_textOf_0 rfl (lv_at hl 0 rfl) ?_
  refine lv_lload_n hx hb dX1_textOf_1 rfl (lv_at hl 1 rfl) ?_
  have hz9 : (zz).natAbs < 10000000000000 := h0
  refine kc2 (va_runV (As := [.long (lZ (zz))]) (rest := []) ⟨hx, hb, hml, hown, hts⟩ (c_X1_writeText l dC dI dA k q σ _ (hG0) hOK hq (zz) hz9) (cwV 1 hts (kg_V mw241 mw242 mw8 mw42 rfl mw243) rfl rfl rfl hdV_X1_writeText ⟨Nat.le_of_ble_eq_true rfl, Nat.le_of_ble_eq_true rfl⟩) ⟨fun a U g mk q => ⟨q.1, q.2.1, kMJ_call q.2.2⟩, va_recv hMJ.1.1 hP (ci := 4) (q0 := 0) rfl rfl, fun U hU hW => ⟨rfl, hU, kMJ_kept hMJ hS hAN hU hW⟩⟩ rfl rfl hl.1 rfl (lv_room (Nat.le_of_ble_eq_true rfl)) dX1_textOf_2 ⟨Nat.le_of_ble_eq_true rfl, Nat.le_of_ble_eq_true rfl⟩) hS (fun a _ h => kA_up hS.1 a h) (fun a h => kA_up hS.1 a h) (fun H1 locs hG9 hy9 hk9 hS => ?_)
  obtain ⟨g_1, tm_g_1, hg_g_1, htm_g_1, ht_g_1, hP⟩ := hG9
  clear hk9 hy9
  generalize H1 = H at hP hS ⊢
  refine lv_aload_n hx hb dX1_textOf_5 rfl (lv_at hl 0 rfl) ?_
  refine va_get (D := (dC, dI)) (ci := 4) (v := .ref (q 7)) (C := RX1) (T := TX1) (N := 8) hx hb hts (fun w h => List.mem_cons_of_mem _ (gF_0_in h)) hown hM.1 hP 0 rfl rfl 6 (by decide) (hts _ (List.mem_cons_of_mem _ mw103)) (fun _ h9 => h9) rfl dX1_textOf_6 ?_
  have hsz9 := hS.1
  refine kcS (va_runV (As := []) (rest := []) ⟨hx, hb, hml, hown, hts⟩ (c_J4_toString_0e30d l dC dI dA k (q 7) (q 8) g_1 tm_g_1 (TL (zz)) _ (hP.sub [7, 8] rfl) htm_g_1 hne78 hk7 hk8 hg_g_1 (by have := TL_rng hz9; omega)) (cwV 0 hts (kg_V mw888 mw389 mw390 mw44 rfl mw391) rfl rfl rfl hdV_J4_toString_0e30d ⟨Nat.le_of_ble_eq_true rfl, Nat.le_of_ble_eq_true rfl⟩) ⟨fun a U g mk q => ⟨q.1, q.2.1, kMJ_call q.2.2⟩, va_recv hMJ.1.1 hP (ci := 1) (q0 := 7) rfl rfl, fun U hU hW => ⟨rfl, hU, kMJ_kept hMJ hS hAN hU hW⟩⟩ rfl rfl hl.1 rfl (lv_room (Nat.le_of_ble_eq_true rfl)) dX1_textOf_9 ⟨Nat.le_of_ble_eq_true rfl, Nat.le_of_ble_eq_true rfl⟩) hS (fun a _ h => kA_AB hS.1 a h) (fun a h => kA_AB hS.1 a h) (fun x9 w9 H1 locs hq1 hq2 hq3 hP9 hy9 hk9 hS => ?_)
  have hT9 : kTS dC dI dA s.heap.size (zz) x9 H1 := ⟨w9, _, ⟨Nat.le_trans hsz9 hq1, Nat.le_trans hsz9 hq2, hq3⟩, fun j hj => by rw [cp_in hj]; exact ht_g_1 j hj, va_PrT hP9⟩
  have hP := kX_join hq hP (va_Pl hP9) hk9
  clear hP9 hk9
  generalize H1 = H at hP hS hT9 ⊢
  exact W.aret (rt := .object "java/lang/String") hx hb hr9 (Or.inl ⟨_, rfl⟩) (Or.inr ⟨_, rfl⟩) (fun t ht hW => ⟨⟨x9, rfl, by rw [ht]; exact ⟨gX_of (by have := TL_rng hz9; omega) hg_g_1 htm_g_1 hP, hT9⟩⟩, hS.F ht⟩) hS.2.2 dX1_textOf_12 hlocks

abbrev ww_X1_count : List Cond := .code yX1_count cX1_count 2 (some (.object "java/lang/String")) :: gT
set_option maxHeartbeats 4000000 in
set_option maxRecDepth 100000 in
theorem c_X1_count (l : Launch) (hst : l.stackTraces = false) (dC : Nat → ClassId) (dI : Nat → Nat → Nat) (dA : Nat → ClassId) (k : Nat → Nat) (q : Nat → Nat) (σ : Nat → Nat → Int) (H0 : Heap) (hG : gX dC dI dA q σ H0) (hOK : kOK σ) (hq : kQI q k) (z1 : Int) (rz1 : -2147483648 ≤ z1 ∧ z1 < 2147483648) : vx_Met l yX1_count ww_X1_count ({ frames := 9, cells := 3, slots := 26, locals := 320 }) (va_Pc [.ref (q 0), .int (iZ z1)] (fun U => U.heap = H0 ∧ kMJ dC dI dA k U)) (kQ2xr (ex2 (!inb z1 0 3) (false) = 0) (fun x H => gX dC dI dA q σ H ∧ kTS dC dI dA H0.size (cnt (σ 0 z1.toNat) (σ 1 z1.toNat)) x H) (kA q H0.size)) (kXC (fun E => (ex2 (!inb z1 0 3) (false) = 1 ∧ E = "java/lang/IndexOutOfBoundsException") ∨ (ex2 (!inb z1 0 3) (false) = 2 ∧ E = "java/lang/IllegalArgumentException"))) 3 26 (kA q H0.size) := by
  refine vx_ofW (cc := cX1_count) (maxL := 2) (ret := (some (.object "java/lang/String"))) (by decide) rfl ?_
  intro p e s m args below meth c s₁ B hml hno hv
  obtain ⟨rfl, hH, hMJ⟩ := hv
  subst hH
  have hG0 := hG
  obtain ⟨tb, tn, tm, htn, hfit, htm, hP⟩ := hG
  have hM := hMJ.1
  have hAN : ∀ a, kA q s.heap.size a → k 0 ≤ a := kA_N hq hM.2.1.1
  have hne78 : q 7 ≠ q 8 := fun z => absurd (hq.1 7 8 (by decide) (by decide) z) (by decide)
  have hk7 := hq.2 7 (by decide)
  have hk8 := hq.2 8 (by decide)
  have hS : va_S (kA q s.heap.size) s.heap s.heap [] := va_S.rf
  have hB := hM.2.1
  have hx := B.exec
  have hb := B.bytes
  have hr := B.returns
  have hts := atoms_spec (ws := ww_X1_count) B.pre
  have hown : s.vm.findClass RX1 = some m.cls := findClass_of_methodNamed B.named
  have hlocks := B.notSynchronized
  have hl := lv_entry ([.ref (q 0), .int (iZ z1)]) (n := 2) (Nat.le_of_ble_eq_true rfl)
  rw [lg_entry_eq]
  generalize (lg_sl ([.ref (q 0), .int (iZ z1)]) ++ List.replicate (2 - (lg_sl ([.ref (q 0), .int (iZ z1)])).length) Slot.unset).toArray = ls at hl ⊢
  have hl : lv_has ls 2 [(0, .ref (q 0)), (1, .int (iZ z1))] := hl
  refine lv_iload_n hx hb dX1_count_0 rfl (lv_at hl 1 rfl) ?_
  refine kcxo (fun _ q => q) (vx_runS (As := [.int (iZ z1)]) (rest := []) ⟨hx, hb, hml, hown, hts⟩ (c_X1_needPlace l hst k _ (z1) (by omega)) (va_cwS 1 hts (kg_S mw224 mw225 mw42 rfl mw226) rfl rfl rfl hdS_X1_needPlace ⟨Nat.le_of_ble_eq_true rfl, Nat.le_of_ble_eq_true rfl⟩) ⟨fun a U g mk q => ⟨q.1, q.2.1, kB_call q.2.2⟩, fun U hU hW => ⟨rfl, hU, kB_same hB hU hW⟩⟩ rfl rfl hl.1 rfl (lv_room (Nat.le_of_ble_eq_true rfl)) dX1_count_1 ⟨Nat.le_of_ble_eq_true rfl, Nat.le_of_ble_eq_true rfl⟩) hno hlocks (fun E h => Or.inl ⟨ex2_1 (by have h9 := h.2; (simp only [inb, noThing_iff, noThing_niff, Bool.not_eq_true', Bool.not_eq_false', Bool.or_eq_true, Bool.or_eq_false_iff, decide_eq_true_eq, decide_eq_false_iff_not] <;> omega)), h.1⟩) (Nat.le_of_ble_eq_true rfl) (Nat.le_of_ble_eq_true rfl) (fun g_1 => ?_)
  have g_1 : 0 ≤ (z1) ∧ (z1) ≤ 3 := g_1
  obtain ⟨p1, hp1, rfl⟩ : ∃ p1 : Nat, p1 < 4 ∧ z1 = (p1 : Int) := ⟨z1.toNat, by omega, by omega⟩
  have o_p1 := kOKr hOK hp1
  refine lv_aload_n hx hb dX1_count_4 rfl (lv_at hl 0 rfl) ?_
  refine lv_aload_n hx hb dX1_count_5 rfl (lv_at hl 0 rfl) ?_
  refine va_get (D := (dC, dI)) (ci := 4) (v := .ref (q 1)) (C := RX1) (T := TX1) (N := 8) hx hb hts (fun w h => List.mem_cons_of_mem _ (gF_0_in h)) hown hM.1 hP 0 rfl rfl 0 (by decide) (hts _ (List.mem_cons_of_mem _ mw97)) (fun _ h9 => h9) rfl dX1_count_6 ?_
  refine lv_iload_n hx hb dX1_count_9 rfl (lv_at hl 1 rfl) ?_
  refine kz_lald (v := cnt (σ 0 p1) (σ 1 p1)) hx hb hM.1 hP 1 1 rfl rfl (by omega) (by decide) rfl dX1_count_10 ?_
  have hz9 : (cnt (σ 0 p1) (σ 1 p1)).natAbs < 10000000000000 := by omega
  refine kc2r (va_runV (As := [.long (lZ (cnt (σ 0 p1) (σ 1 p1)))]) (rest := []) ⟨hx, hb, hml, hown, hts⟩ (c_X1_textOf l dC dI dA k q σ _ hG0 hOK hq (cnt (σ 0 p1) (σ 1 p1)) hz9) (cwV 1 hts (kg_V mw885 mw886 mw26 mw42 rfl mw887) rfl rfl rfl hdV_X1_textOf ⟨Nat.le_of_ble_eq_true rfl, Nat.le_of_ble_eq_true rfl⟩) ⟨fun a U g mk q => ⟨q.1, q.2.1, kMJ_call q.2.2⟩, va_recv hMJ.1.1 hP (ci := 4) (q0 := 0) rfl rfl, fun U hU hW => ⟨rfl, hU, kMJ_kept hMJ hS hAN hU hW⟩⟩ rfl rfl hl.1 rfl (lv_room (Nat.le_of_ble_eq_true rfl)) dX1_count_11 ⟨Nat.le_of_ble_eq_true rfl, Nat.le_of_ble_eq_true rfl⟩) hS (fun a _ h => kA_up hS.1 a h) (fun a h => kA_up hS.1 a h) (fun x9 H1 locs hG9 hy9 hk9 hS => ?_)
  generalize H1 = H at hG9 hS ⊢
  refine W.widen (k := 3) (n := 26) (Nat.le_of_ble_eq_true rfl) (Nat.le_of_ble_eq_true rfl) ?_
  refine vx_ret ?_
  exact W.aret (rt := .object "java/lang/String") hx hb hr (Or.inl ⟨_, rfl⟩) (Or.inr ⟨_, rfl⟩) (fun t ht hW => ⟨⟨⟨x9, rfl, by rw [ht]; exact hG9⟩, hS.F ht⟩, ex2_0 (by (simp only [inb, noThing_iff, noThing_niff, Bool.not_eq_true', Bool.not_eq_false', Bool.or_eq_true, Bool.or_eq_false_iff, decide_eq_true_eq, decide_eq_false_iff_not] <;> omega)) (by rfl)⟩) hS.2.2 dX1_count_14 hlocks

abbrev ww_X1_leafTo : List Cond := .code yX1_leafTo cX1_leafTo 5 (some (.object "java/lang/String")) :: gT
set_option maxHeartbeats 4000000 in
set_option maxRecDepth 100000 in
theorem c_X1_leafTo (l : Launch) (hst : l.stackTraces = false) (dC : Nat → ClassId) (dI : Nat → Nat → Nat) (dA : Nat → ClassId) (k : Nat → Nat) (q : Nat → Nat) (σ : Nat → Nat → Int) (H0 : Heap) (hG : gX dC dI dA q σ H0) (hOK : kOK σ) (hq : kQI q k) (z1 : Int) (z2 : Int) (uu : Int) (bb : Bool) (rz1 : -2147483648 ≤ z1 ∧ z1 < 2147483648) (rz2 : -2147483648 ≤ z2 ∧ z2 < 2147483648) (ruu : -2147483648 ≤ uu ∧ uu < 2147483648) : vx_Met l yX1_leafTo ww_X1_leafTo ({ frames := 9, cells := 5, slots := 38, locals := 322 }) (va_Pc [.ref (q 0), .int (iZ z1), .int (iZ z2), .int (iZ uu), .int (iZ (bZ (bb)))] (fun U => U.heap = H0 ∧ kMJ dC dI dA k U)) (kQ2xr (ex2 (!inb z1 0 3 || !inb z2 0 3) (!inb uu 0 4) = 0) (fun x H => gX dC dI dA q σ H ∧ kTS dC dI dA H0.size (tq (cnt (σ 0 z2.toNat) (σ 1 z2.toNat) - cnt (σ 0 z1.toNat) (σ 1 z1.toNat)) (usize uu)) x H) (kA q H0.size)) (kXC (fun E => (ex2 (!inb z1 0 3 || !inb z2 0 3) (!inb uu 0 4) = 1 ∧ E = "java/lang/IndexOutOfBoundsException") ∨ (ex2 (!inb z1 0 3 || !inb z2 0 3) (!inb uu 0 4) = 2 ∧ E = "java/lang/IllegalArgumentException"))) 5 38 (kA q H0.size) := by
  refine vx_ofW (cc := cX1_leafTo) (maxL := 5) (ret := (some (.object "java/lang/String"))) (by decide) rfl ?_
  intro p e s m args below meth c s₁ B hml hno hv
  obtain ⟨rfl, hH, hMJ⟩ := hv
  subst hH
  have hG0 := hG
  obtain ⟨tb, tn, tm, htn, hfit, htm, hP⟩ := hG
  have hM := hMJ.1
  have hAN : ∀ a, kA q s.heap.size a → k 0 ≤ a := kA_N hq hM.2.1.1
  have hne78 : q 7 ≠ q 8 := fun z => absurd (hq.1 7 8 (by decide) (by decide) z) (by decide)
  have hk7 := hq.2 7 (by decide)
  have hk8 := hq.2 8 (by decide)
  have hS : va_S (kA q s.heap.size) s.heap s.heap [] := va_S.rf
  have hB := hM.2.1
  have hx := B.exec
  have hb := B.bytes
  have hr := B.returns
  have hts := atoms_spec (ws := ww_X1_leafTo) B.pre
  have hown : s.vm.findClass RX1 = some m.cls := findClass_of_methodNamed B.named
  have hlocks := B.notSynchronized
  have hl := lv_entry ([.ref (q 0), .int (iZ z1), .int (iZ z2), .int (iZ uu), .int (iZ (bZ (bb)))]) (n := 5) (Nat.le_of_ble_eq_true rfl)
  rw [lg_entry_eq]
  generalize (lg_sl ([.ref (q 0), .int (iZ z1), .int (iZ z2), .int (iZ uu), .int (iZ (bZ (bb)))]) ++ List.replicate (5 - (lg_sl ([.ref (q 0), .int (iZ z1), .int (iZ z2), .int (iZ uu), .int (iZ (bZ (bb)))])).length) Slot.unset).toArray = ls at hl ⊢
  have hl : lv_has ls 5 [(0, .ref (q 0)), (1, .int (iZ z1)), (2, .int (iZ z2)), (3, .int (iZ uu)), (4, .int (iZ (bZ (bb))))] := hl
  refine lv_iload_n hx hb dX1_leafTo_0 rfl (lv_at hl 1 rfl) ?_
  refine kcxo (fun _ q => q) (vx_runS (As := [.int (iZ z1)]) (rest := []) ⟨hx, hb, hml, hown, hts⟩ (c_X1_needPlace l hst k _ (z1) (by omega)) (va_cwS 1 hts (kg_S mw224 mw225 mw42 rfl mw226) rfl rfl rfl hdS_X1_needPlace ⟨Nat.le_of_ble_eq_true rfl, Nat.le_of_ble_eq_true rfl⟩) ⟨fun a U g mk q => ⟨q.1, q.2.1, kB_call q.2.2⟩, fun U hU hW => ⟨rfl, hU, kB_same hB hU hW⟩⟩ rfl rfl hl.1 rfl (lv_room (Nat.le_of_ble_eq_true rfl)) dX1_leafTo_1 ⟨Nat.le_of_ble_eq_true rfl, Nat.le_of_ble_eq_true rfl⟩) hno hlocks (fun E h => Or.inl ⟨ex2_1 (by have h9 := h.2; (simp only [inb, noThing_iff, noThing_niff, Bool.not_eq_true', Bool.not_eq_false', Bool.or_eq_true, Bool.or_eq_false_iff, decide_eq_true_eq, decide_eq_false_iff_not] <;> omega)), h.1⟩) (Nat.le_of_ble_eq_true rfl) (Nat.le_of_ble_eq_true rfl) (fun g_1 => ?_)
  have g_1 : 0 ≤ (z1) ∧ (z1) ≤ 3 := g_1
  obtain ⟨p1, hp1, rfl⟩ : ∃ p1 : Nat, p1 < 4 ∧ z1 = (p1 : Int) := ⟨z1.toNat, by omega, by omega⟩
  have o_p1 := kOKr hOK hp1
  refine lv_iload_n hx hb dX1_leafTo_4 rfl (lv_at hl 2 rfl) ?_
  refine kcxo (fun _ q => q) (vx_runS (As := [.int (iZ z2)]) (rest := []) ⟨hx, hb, hml, hown, hts⟩ (c_X1_needPlace l hst k _ (z2) (by omega)) (va_cwS 1 hts (kg_S mw224 mw225 mw42 rfl mw226) rfl rfl rfl hdS_X1_needPlace ⟨Nat.le_of_ble_eq_true rfl, Nat.le_of_ble_eq_true rfl⟩) ⟨fun a U g mk q => ⟨q.1, q.2.1, kB_call q.2.2⟩, fun U hU hW => ⟨rfl, hU, kB_same hB hU hW⟩⟩ rfl rfl hl.1 rfl (lv_room (Nat.le_of_ble_eq_true rfl)) dX1_leafTo_5 ⟨Nat.le_of_ble_eq_true rfl, Nat.le_of_ble_eq_true rfl⟩) hno hlocks (fun E h => Or.inl ⟨ex2_1 (by have h9 := h.2; (simp only [inb, noThing_iff, noThing_niff, Bool.not_eq_true', Bool.not_eq_false', Bool.or_eq_true, Bool.or_eq_false_iff, decide_eq_true_eq, decide_eq_false_iff_not] <;> omega)), h.1⟩) (Nat.le_of_ble_eq_true rfl) (Nat.le_of_ble_eq_true rfl) (fun g_2 => ?_)
  have g_2 : 0 ≤ (z2) ∧ (z2) ≤ 3 := g_2
  obtain ⟨p2, hp2, rfl⟩ : ∃ p2 : Nat, p2 < 4 ∧ z2 = (p2 : Int) := ⟨z2.toNat, by omega, by omega⟩
  have o_p2 := kOKr hOK hp2
  refine lv_iload_n hx hb dX1_leafTo_8 rfl (lv_at hl 3 rfl) ?_
  refine lv_iconst (v := iZ 0) hx hb dX1_leafTo_9 rfl ?_
  refine lv_iconst (v := iZ 4) hx hb dX1_leafTo_10 rfl ?_
  refine kcxo (fun _ q => q) (vx_runS (As := [.int (iZ uu), .int (iZ 0), .int (iZ 4)]) (rest := []) ⟨hx, hb, hml, hown, hts⟩ (c_X1_needWithin l hst k _ (uu) (0) (4) (by omega) (by omega) (by omega)) (va_cwS 3 hts (kg_S mw228 mw229 mw42 rfl mw230) rfl rfl rfl hdS_X1_needWithin ⟨Nat.le_of_ble_eq_true rfl, Nat.le_of_ble_eq_true rfl⟩) ⟨fun a U g mk q => ⟨q.1, q.2.1, kB_call q.2.2⟩, fun U hU hW => ⟨rfl, hU, kB_same hB hU hW⟩⟩ rfl rfl hl.1 rfl (lv_room (Nat.le_of_ble_eq_true rfl)) dX1_leafTo_11 ⟨Nat.le_of_ble_eq_true rfl, Nat.le_of_ble_eq_true rfl⟩) hno hlocks (fun E h => Or.inr ⟨ex2_2 (by (simp only [inb, noThing_iff, noThing_niff, Bool.not_eq_true', Bool.not_eq_false', Bool.or_eq_true, Bool.or_eq_false_iff, decide_eq_true_eq, decide_eq_false_iff_not] <;> omega)) (by have h9 := h.2; (simp only [inb, noThing_iff, noThing_niff, Bool.not_eq_true', Bool.not_eq_false', Bool.or_eq_true, Bool.or_eq_false_iff, decide_eq_true_eq, decide_eq_false_iff_not] <;> omega)), h.1⟩) (Nat.le_of_ble_eq_true rfl) (Nat.le_of_ble_eq_true rfl) (fun g_3 => ?_)
  have g_3 : (0) ≤ (uu) ∧ (uu) ≤ (4) := g_3
  refine lv_aload_n hx hb dX1_leafTo_14 rfl (lv_at hl 0 rfl) ?_
  refine lv_aload_n hx hb dX1_leafTo_15 rfl (lv_at hl 0 rfl) ?_
  refine lv_iload_n hx hb dX1_leafTo_16 rfl (lv_at hl 1 rfl) ?_
  refine lv_iload_n hx hb dX1_leafTo_17 rfl (lv_at hl 2 rfl) ?_
  refine lv_iload_n hx hb dX1_leafTo_18 rfl (lv_at hl 3 rfl) ?_
  refine kc0 (fun _ q => q) (va_runV (As := [.int (iZ ((p1 : Nat) : Int)), .int (iZ ((p2 : Nat) : Int)), .int (iZ uu)]) (rest := [.ref (q 0)]) ⟨hx, hb, hml, hown, hts⟩ (c_X1_unitsToLeaf l dC dI dA k q (σ) _ ⟨tb, tn, tm, htn, hfit, htm, hP⟩ (hOK) p1 p2 (uu) (by omega) (by omega) (by omega)) (cwV 3 hts (kg_V mw573 mw574 mw16 mw42 rfl mw575) rfl rfl rfl hdV_X1_unitsToLeaf ⟨Nat.le_of_ble_eq_true rfl, Nat.le_of_ble_eq_true rfl⟩) ⟨fun a U g mk q => ⟨q.1, q.2.1, kM_call q.2.2⟩, va_recv hM.1 hP (ci := 4) (q0 := 0) rfl rfl, fun U hU hW => ⟨rfl, hU, kM_same hM hU hW⟩⟩ rfl rfl hl.1 rfl (lv_room (Nat.le_of_ble_eq_true rfl)) dX1_leafTo_19 ⟨Nat.le_of_ble_eq_true rfl, Nat.le_of_ble_eq_true rfl⟩) ?_
  have hz9 : (tq (cnt (σ 0 p2) (σ 1 p2) - cnt (σ 0 p1) (σ 1 p1)) (usize ((uu)))).natAbs < 10000000000000 := by have hu := usize_rng uu; have ht := tq_abs (x := cnt (σ 0 p2) (σ 1 p2) - cnt (σ 0 p1) (σ 1 p1)) (y := usize uu) (by omega); omega
  refine kc2r (va_runV (As := [.long (lZ (tq (cnt (σ 0 p2) (σ 1 p2) - cnt (σ 0 p1) (σ 1 p1)) (usize ((uu)))))]) (rest := []) ⟨hx, hb, hml, hown, hts⟩ (c_X1_textOf l dC dI dA k q σ _ hG0 hOK hq (tq (cnt (σ 0 p2) (σ 1 p2) - cnt (σ 0 p1) (σ 1 p1)) (usize ((uu)))) hz9) (cwV 1 hts (kg_V mw885 mw886 mw26 mw42 rfl mw887) rfl rfl rfl hdV_X1_textOf ⟨Nat.le_of_ble_eq_true rfl, Nat.le_of_ble_eq_true rfl⟩) ⟨fun a U g mk q => ⟨q.1, q.2.1, kMJ_call q.2.2⟩, va_recv hMJ.1.1 hP (ci := 4) (q0 := 0) rfl rfl, fun U hU hW => ⟨rfl, hU, kMJ_kept hMJ hS hAN hU hW⟩⟩ rfl rfl hl.1 rfl (lv_room (Nat.le_of_ble_eq_true rfl)) dX1_leafTo_22 ⟨Nat.le_of_ble_eq_true rfl, Nat.le_of_ble_eq_true rfl⟩) hS (fun a _ h => kA_up hS.1 a h) (fun a h => kA_up hS.1 a h) (fun x9 H1 locs hG9 hy9 hk9 hS => ?_)
  generalize H1 = H at hG9 hS ⊢
  refine W.widen (k := 5) (n := 38) (Nat.le_of_ble_eq_true rfl) (Nat.le_of_ble_eq_true rfl) ?_
  refine vx_ret ?_
  exact W.aret (rt := .object "java/lang/String") hx hb hr (Or.inl ⟨_, rfl⟩) (Or.inr ⟨_, rfl⟩) (fun t ht hW => ⟨⟨⟨x9, rfl, by rw [ht]; exact hG9⟩, hS.F ht⟩, ex2_0 (by (simp only [inb, noThing_iff, noThing_niff, Bool.not_eq_true', Bool.not_eq_false', Bool.or_eq_true, Bool.or_eq_false_iff, decide_eq_true_eq, decide_eq_false_iff_not] <;> omega)) (by (simp only [inb, noThing_iff, noThing_niff, Bool.not_eq_true', Bool.not_eq_false', Bool.or_eq_true, Bool.or_eq_false_iff, decide_eq_true_eq, decide_eq_false_iff_not] <;> omega))⟩) hS.2.2 dX1_leafTo_25 hlocks

abbrev ww_X1_yearTo : List Cond := .code yX1_yearTo cX1_yearTo 7 (some (.object "java/lang/String")) :: gT
set_option maxHeartbeats 4000000 in
set_option maxRecDepth 100000 in
theorem c_X1_yearTo (l : Launch) (hst : l.stackTraces = false) (dC : Nat → ClassId) (dI : Nat → Nat → Nat) (dA : Nat → ClassId) (k : Nat → Nat) (q : Nat → Nat) (σ : Nat → Nat → Int) (H0 : Heap) (hG : gX dC dI dA q σ H0) (hOK : kOK σ) (hq : kQI q k) (z1 : Int) (z2 : Int) (uu : Int) (bb : Bool) (rz1 : -2147483648 ≤ z1 ∧ z1 < 2147483648) (rz2 : -2147483648 ≤ z2 ∧ z2 < 2147483648) (ruu : -2147483648 ≤ uu ∧ uu < 2147483648) : vx_Met l yX1_yearTo ww_X1_yearTo ({ frames := 9, cells := 5, slots := 38, locals := 322 }) (va_Pc [.ref (q 0), .int (iZ z1), .int (iZ z2), .int (iZ uu), .int (iZ (bZ (bb)))] (fun U => U.heap = H0 ∧ kMJ dC dI dA k U)) (kQ2xr (ex2 (!inb z1 0 3 || !inb z2 0 3) (!inb uu 1 4) = 0) (fun x H => gX dC dI dA q σ H ∧ kTS dC dI dA H0.size (tq (12 * (σ 2 z2.toNat - σ 2 z1.toNat)) (usize uu)) x H) (kA q H0.size)) (kXC (fun E => (ex2 (!inb z1 0 3 || !inb z2 0 3) (!inb uu 1 4) = 1 ∧ E = "java/lang/IndexOutOfBoundsException") ∨ (ex2 (!inb z1 0 3 || !inb z2 0 3) (!inb uu 1 4) = 2 ∧ E = "java/lang/IllegalArgumentException"))) 5 38 (kA q H0.size) := by
  refine vx_ofW (cc := cX1_yearTo) (maxL := 7) (ret := (some (.object "java/lang/String"))) (by decide) rfl ?_
  intro p e s m args below meth c s₁ B hml hno hv
  obtain ⟨rfl, hH, hMJ⟩ := hv
  subst hH
  have hG0 := hG
  obtain ⟨tb, tn, tm, htn, hfit, htm, hP⟩ := hG
  have hM := hMJ.1
  have hAN : ∀ a, kA q s.heap.size a → k 0 ≤ a := kA_N hq hM.2.1.1
  have hne78 : q 7 ≠ q 8 := fun z => absurd (hq.1 7 8 (by decide) (by decide) z) (by decide)
  have hk7 := hq.2 7 (by decide)
  have hk8 := hq.2 8 (by decide)
  have hS : va_S (kA q s.heap.size) s.heap s.heap [] := va_S.rf
  have hB := hM.2.1
  have hx := B.exec
  have hb := B.bytes
  have hr := B.returns
  have hts := atoms_spec (ws := ww_X1_yearTo) B.pre
  have hown : s.vm.findClass RX1 = some m.cls := findClass_of_methodNamed B.named
  have hlocks := B.notSynchronized
  have hl := lv_entry ([.ref (q 0), .int (iZ z1), .int (iZ z2), .int (iZ uu), .int (iZ (bZ (bb)))]) (n := 7) (Nat.le_of_ble_eq_true rfl)
  rw [lg_entry_eq]
  generalize (lg_sl ([.ref (q 0), .int (iZ z1), .int (iZ z2), .int (iZ uu), .int (iZ (bZ (bb)))]) ++ List.replicate (7 - (lg_sl ([.ref (q 0), .int (iZ z1), .int (iZ z2), .int (iZ uu), .int (iZ (bZ (bb)))])).length) Slot.unset).toArray = ls at hl ⊢
  have hl : lv_has ls 7 [(0, .ref (q 0)), (1, .int (iZ z1)), (2, .int (iZ z2)), (3, .int (iZ uu)), (4, .int (iZ (bZ (bb))))] := hl
  refine lv_iload_n hx hb dX1_yearTo_0 rfl (lv_at hl 1 rfl) ?_
  refine kcxo (fun _ q => q) (vx_runS (As := [.int (iZ z1)]) (rest := []) ⟨hx, hb, hml, hown, hts⟩ (c_X1_needPlace l hst k _ (z1) (by omega)) (va_cwS 1 hts (kg_S mw224 mw225 mw42 rfl mw226) rfl rfl rfl hdS_X1_needPlace ⟨Nat.le_of_ble_eq_true rfl, Nat.le_of_ble_eq_true rfl⟩) ⟨fun a U g mk q => ⟨q.1, q.2.1, kB_call q.2.2⟩, fun U hU hW => ⟨rfl, hU, kB_same hB hU hW⟩⟩ rfl rfl hl.1 rfl (lv_room (Nat.le_of_ble_eq_true rfl)) dX1_yearTo_1 ⟨Nat.le_of_ble_eq_true rfl, Nat.le_of_ble_eq_true rfl⟩) hno hlocks (fun E h => Or.inl ⟨ex2_1 (by have h9 := h.2; (simp only [inb, noThing_iff, noThing_niff, Bool.not_eq_true', Bool.not_eq_false', Bool.or_eq_true, Bool.or_eq_false_iff, decide_eq_true_eq, decide_eq_false_iff_not] <;> omega)), h.1⟩) (Nat.le_of_ble_eq_true rfl) (Nat.le_of_ble_eq_true rfl) (fun g_1 => ?_)
  have g_1 : 0 ≤ (z1) ∧ (z1) ≤ 3 := g_1
  obtain ⟨p1, hp1, rfl⟩ : ∃ p1 : Nat, p1 < 4 ∧ z1 = (p1 : Int) := ⟨z1.toNat, by omega, by omega⟩
  have o_p1 := kOKr hOK hp1
  refine lv_iload_n hx hb dX1_yearTo_4 rfl (lv_at hl 2 rfl) ?_
  refine kcxo (fun _ q => q) (vx_runS (As := [.int (iZ z2)]) (rest := []) ⟨hx, hb, hml, hown, hts⟩ (c_X1_needPlace l hst k _ (z2) (by omega)) (va_cwS 1 hts (kg_S mw224 mw225 mw42 rfl mw226) rfl rfl rfl hdS_X1_needPlace ⟨Nat.le_of_ble_eq_true rfl, Nat.le_of_ble_eq_true rfl⟩) ⟨fun a U g mk q => ⟨q.1, q.2.1, kB_call q.2.2⟩, fun U hU hW => ⟨rfl, hU, kB_same hB hU hW⟩⟩ rfl rfl hl.1 rfl (lv_room (Nat.le_of_ble_eq_true rfl)) dX1_yearTo_5 ⟨Nat.le_of_ble_eq_true rfl, Nat.le_of_ble_eq_true rfl⟩) hno hlocks (fun E h => Or.inl ⟨ex2_1 (by have h9 := h.2; (simp only [inb, noThing_iff, noThing_niff, Bool.not_eq_true', Bool.not_eq_false', Bool.or_eq_true, Bool.or_eq_false_iff, decide_eq_true_eq, decide_eq_false_iff_not] <;> omega)), h.1⟩) (Nat.le_of_ble_eq_true rfl) (Nat.le_of_ble_eq_true rfl) (fun g_2 => ?_)
  have g_2 : 0 ≤ (z2) ∧ (z2) ≤ 3 := g_2
  obtain ⟨p2, hp2, rfl⟩ : ∃ p2 : Nat, p2 < 4 ∧ z2 = (p2 : Int) := ⟨z2.toNat, by omega, by omega⟩
  have o_p2 := kOKr hOK hp2
  refine lv_iload_n hx hb dX1_yearTo_8 rfl (lv_at hl 3 rfl) ?_
  refine lv_iconst (v := iZ 1) hx hb dX1_yearTo_9 rfl ?_
  refine lv_iconst (v := iZ 4) hx hb dX1_yearTo_10 rfl ?_
  refine kcxo (fun _ q => q) (vx_runS (As := [.int (iZ uu), .int (iZ 1), .int (iZ 4)]) (rest := []) ⟨hx, hb, hml, hown, hts⟩ (c_X1_needWithin l hst k _ (uu) (1) (4) (by omega) (by omega) (by omega)) (va_cwS 3 hts (kg_S mw228 mw229 mw42 rfl mw230) rfl rfl rfl hdS_X1_needWithin ⟨Nat.le_of_ble_eq_true rfl, Nat.le_of_ble_eq_true rfl⟩) ⟨fun a U g mk q => ⟨q.1, q.2.1, kB_call q.2.2⟩, fun U hU hW => ⟨rfl, hU, kB_same hB hU hW⟩⟩ rfl rfl hl.1 rfl (lv_room (Nat.le_of_ble_eq_true rfl)) dX1_yearTo_11 ⟨Nat.le_of_ble_eq_true rfl, Nat.le_of_ble_eq_true rfl⟩) hno hlocks (fun E h => Or.inr ⟨ex2_2 (by (simp only [inb, noThing_iff, noThing_niff, Bool.not_eq_true', Bool.not_eq_false', Bool.or_eq_true, Bool.or_eq_false_iff, decide_eq_true_eq, decide_eq_false_iff_not] <;> omega)) (by have h9 := h.2; (simp only [inb, noThing_iff, noThing_niff, Bool.not_eq_true', Bool.not_eq_false', Bool.or_eq_true, Bool.or_eq_false_iff, decide_eq_true_eq, decide_eq_false_iff_not] <;> omega)), h.1⟩) (Nat.le_of_ble_eq_true rfl) (Nat.le_of_ble_eq_true rfl) (fun g_3 => ?_)
  have g_3 : (1) ≤ (uu) ∧ (uu) ≤ (4) := g_3
  refine lv_aload_n hx hb dX1_yearTo_14 rfl (lv_at hl 0 rfl) ?_
  refine va_get (D := (dC, dI)) (ci := 4) (v := .ref (q 2)) (C := RX1) (T := TX1) (N := 8) hx hb hts (fun w h => List.mem_cons_of_mem _ (gF_0_in h)) hown hM.1 hP 0 rfl rfl 1 (by decide) (hts _ (List.mem_cons_of_mem _ mw98)) (fun _ h9 => h9) rfl dX1_yearTo_15 ?_
  refine lv_iload_n hx hb dX1_yearTo_18 rfl (lv_at hl 2 rfl) ?_
  refine kz_iald (v := σ 2 p2) hx hb hM.1 hP 2 0 rfl rfl (by omega) (by decide) rfl dX1_yearTo_19 ?_
  refine kz_i2l hx hb (by omega) dX1_yearTo_20 ?_
  refine lv_aload_n hx hb dX1_yearTo_21 rfl (lv_at hl 0 rfl) ?_
  refine va_get (D := (dC, dI)) (ci := 4) (v := .ref (q 2)) (C := RX1) (T := TX1) (N := 8) hx hb hts (fun w h => List.mem_cons_of_mem _ (gF_0_in h)) hown hM.1 hP 0 rfl rfl 1 (by decide) (hts _ (List.mem_cons_of_mem _ mw98)) (fun _ h9 => h9) rfl dX1_yearTo_22 ?_
  refine lv_iload_n hx hb dX1_yearTo_25 rfl (lv_at hl 1 rfl) ?_
  refine kz_iald (v := σ 2 p1) hx hb hM.1 hP 2 0 rfl rfl (by omega) (by decide) rfl dX1_yearTo_26 ?_
  refine kz_i2l hx hb (by omega) dX1_yearTo_27 ?_
  refine kz_lsub hx hb dX1_yearTo_28 ?_
  refine lv_lstore (lv' := [(5, .long (lZ (((σ 2 p2)) - ((σ 2 p1))))), (0, .ref (q 0)), (1, .int (iZ ((p1 : Nat) : Int))), (2, .int (iZ ((p2 : Nat) : Int))), (3, .int (iZ uu)), (4, .int (iZ (bZ (bb))))]) hx hb dX1_yearTo_29 hl (by decide) rfl (fun ls hl => ?_)
  refine lv_aload_n hx hb dX1_yearTo_31 rfl (lv_at hl 1 rfl) ?_
  refine lv_ldc2 (v := lZ 12) hx hb hown (hts _ (List.mem_cons_of_mem _ mw758)) dX1_yearTo_32 ?_
  refine lv_lload hx hb dX1_yearTo_35 (lv_at hl 0 rfl) ?_
  refine kz_lmul hx hb dX1_yearTo_37 ?_
  refine lv_iload_n hx hb dX1_yearTo_38 rfl (lv_at hl 4 rfl) ?_
  refine kc0 (fun _ q => q) (va_runS (As := [.long (lZ (12 * (((σ 2 p2)) - ((σ 2 p1))))), .int (iZ uu)]) (rest := [.ref (q 0)]) ⟨hx, hb, hml, hown, hts⟩ (c_X0_unitsInMonths l _ ((12 * (((σ 2 p2)) - ((σ 2 p1))))) (uu) (by omega) (by omega)) (va_cwS 2 hts (kg_S mw576 mw577 mw51 rfl mw578) rfl rfl rfl hdS_X0_unitsInMonths ⟨Nat.le_of_ble_eq_true rfl, Nat.le_of_ble_eq_true rfl⟩) ⟨fun a U g mk q => q, fun U hU hW => ⟨rfl, hU⟩⟩ rfl rfl hl.1 rfl (lv_room (Nat.le_of_ble_eq_true rfl)) dX1_yearTo_39 ⟨Nat.le_of_ble_eq_true rfl, Nat.le_of_ble_eq_true rfl⟩) ?_
  have hz9 : (tq (((12 * (((σ 2 p2)) - ((σ 2 p1)))))) (usize ((uu)))).natAbs < 10000000000000 := by have hu := usize_rng uu; have ht := tq_abs (x := 12 * (σ 2 p2 - σ 2 p1)) (y := usize uu) (by omega); omega
  refine kc2r (va_runV (As := [.long (lZ (tq (((12 * (((σ 2 p2)) - ((σ 2 p1)))))) (usize ((uu)))))]) (rest := []) ⟨hx, hb, hml, hown, hts⟩ (c_X1_textOf l dC dI dA k q σ _ hG0 hOK hq (tq (((12 * (((σ 2 p2)) - ((σ 2 p1)))))) (usize ((uu)))) hz9) (cwV 1 hts (kg_V mw885 mw886 mw26 mw42 rfl mw887) rfl rfl rfl hdV_X1_textOf ⟨Nat.le_of_ble_eq_true rfl, Nat.le_of_ble_eq_true rfl⟩) ⟨fun a U g mk q => ⟨q.1, q.2.1, kMJ_call q.2.2⟩, va_recv hMJ.1.1 hP (ci := 4) (q0 := 0) rfl rfl, fun U hU hW => ⟨rfl, hU, kMJ_kept hMJ hS hAN hU hW⟩⟩ rfl rfl hl.1 rfl (lv_room (Nat.le_of_ble_eq_true rfl)) dX1_yearTo_42 ⟨Nat.le_of_ble_eq_true rfl, Nat.le_of_ble_eq_true rfl⟩) hS (fun a _ h => kA_up hS.1 a h) (fun a h => kA_up hS.1 a h) (fun x9 H1 locs hG9 hy9 hk9 hS => ?_)
  generalize H1 = H at hG9 hS ⊢
  refine W.widen (k := 5) (n := 38) (Nat.le_of_ble_eq_true rfl) (Nat.le_of_ble_eq_true rfl) ?_
  refine vx_ret ?_
  exact W.aret (rt := .object "java/lang/String") hx hb hr (Or.inl ⟨_, rfl⟩) (Or.inr ⟨_, rfl⟩) (fun t ht hW => ⟨⟨⟨x9, rfl, by rw [ht]; exact hG9⟩, hS.F ht⟩, ex2_0 (by (simp only [inb, noThing_iff, noThing_niff, Bool.not_eq_true', Bool.not_eq_false', Bool.or_eq_true, Bool.or_eq_false_iff, decide_eq_true_eq, decide_eq_false_iff_not] <;> omega)) (by (simp only [inb, noThing_iff, noThing_niff, Bool.not_eq_true', Bool.not_eq_false', Bool.or_eq_true, Bool.or_eq_false_iff, decide_eq_true_eq, decide_eq_false_iff_not] <;> omega))⟩) hS.2.2 dX1_yearTo_45 hlocks

abbrev ww_X1_number : List Cond := .code yX1_number cX1_number 2 (some (.object "java/lang/String")) :: gT
set_option maxHeartbeats 4000000 in
set_option maxRecDepth 100000 in
theorem c_X1_number (l : Launch) (hst : l.stackTraces = false) (dC : Nat → ClassId) (dI : Nat → Nat → Nat) (dA : Nat → ClassId) (k : Nat → Nat) (q : Nat → Nat) (σ : Nat → Nat → Int) (H0 : Heap) (hG : gX dC dI dA q σ H0) (hOK : kOK σ) (hq : kQI q k) (z1 : Int) (rz1 : -2147483648 ≤ z1 ∧ z1 < 2147483648) : vx_Met l yX1_number ww_X1_number ({ frames := 9, cells := 3, slots := 26, locals := 320 }) (va_Pc [.ref (q 0), .int (iZ z1)] (fun U => U.heap = H0 ∧ kMJ dC dI dA k U)) (kQ2xr (ex2 (!inb z1 0 3) (false) = 0) (fun x H => gX dC dI dA q σ H ∧ kTS dC dI dA H0.size (dnum (σ 5 z1.toNat) (σ 6 z1.toNat) (σ 7 z1.toNat)) x H) (kA q H0.size)) (kXC (fun E => (ex2 (!inb z1 0 3) (false) = 1 ∧ E = "java/lang/IndexOutOfBoundsException") ∨ (ex2 (!inb z1 0 3) (false) = 2 ∧ E = "java/lang/IllegalArgumentException"))) 3 26 (kA q H0.size) := by
  refine vx_ofW (cc := cX1_number) (maxL := 2) (ret := (some (.object "java/lang/String"))) (by decide) rfl ?_
  intro p e s m args below meth c s₁ B hml hno hv
  obtain ⟨rfl, hH, hMJ⟩ := hv
  subst hH
  have hG0 := hG
  obtain ⟨tb, tn, tm, htn, hfit, htm, hP⟩ := hG
  have hM := hMJ.1
  have hAN : ∀ a, kA q s.heap.size a → k 0 ≤ a := kA_N hq hM.2.1.1
  have hne78 : q 7 ≠ q 8 := fun z => absurd (hq.1 7 8 (by decide) (by decide) z) (by decide)
  have hk7 := hq.2 7 (by decide)
  have hk8 := hq.2 8 (by decide)
  have hS : va_S (kA q s.heap.size) s.heap s.heap [] := va_S.rf
  have hB := hM.2.1
  have hx := B.exec
  have hb := B.bytes
  have hr := B.returns
  have hts := atoms_spec (ws := ww_X1_number) B.pre
  have hown : s.vm.findClass RX1 = some m.cls := findClass_of_methodNamed B.named
  have hlocks := B.notSynchronized
  have hl := lv_entry ([.ref (q 0), .int (iZ z1)]) (n := 2) (Nat.le_of_ble_eq_true rfl)
  rw [lg_entry_eq]
  generalize (lg_sl ([.ref (q 0), .int (iZ z1)]) ++ List.replicate (2 - (lg_sl ([.ref (q 0), .int (iZ z1)])).length) Slot.unset).toArray = ls at hl ⊢
  have hl : lv_has ls 2 [(0, .ref (q 0)), (1, .int (iZ z1))] := hl
  refine lv_iload_n hx hb dX1_number_0 rfl (lv_at hl 1 rfl) ?_
  refine kcxo (fun _ q => q) (vx_runS (As := [.int (iZ z1)]) (rest := []) ⟨hx, hb, hml, hown, hts⟩ (c_X1_needPlace l hst k _ (z1) (by omega)) (va_cwS 1 hts (kg_S mw224 mw225 mw42 rfl mw226) rfl rfl rfl hdS_X1_needPlace ⟨Nat.le_of_ble_eq_true rfl, Nat.le_of_ble_eq_true rfl⟩) ⟨fun a U g mk q => ⟨q.1, q.2.1, kB_call q.2.2⟩, fun U hU hW => ⟨rfl, hU, kB_same hB hU hW⟩⟩ rfl rfl hl.1 rfl (lv_room (Nat.le_of_ble_eq_true rfl)) dX1_number_1 ⟨Nat.le_of_ble_eq_true rfl, Nat.le_of_ble_eq_true rfl⟩) hno hlocks (fun E h => Or.inl ⟨ex2_1 (by have h9 := h.2; (simp only [inb, noThing_iff, noThing_niff, Bool.not_eq_true', Bool.not_eq_false', Bool.or_eq_true, Bool.or_eq_false_iff, decide_eq_true_eq, decide_eq_false_iff_not] <;> omega)), h.1⟩) (Nat.le_of_ble_eq_true rfl) (Nat.le_of_ble_eq_true rfl) (fun g_1 => ?_)
  have g_1 : 0 ≤ (z1) ∧ (z1) ≤ 3 := g_1
  obtain ⟨p1, hp1, rfl⟩ : ∃ p1 : Nat, p1 < 4 ∧ z1 = (p1 : Int) := ⟨z1.toNat, by omega, by omega⟩
  have o_p1 := kOKr hOK hp1
  refine lv_aload_n hx hb dX1_number_4 rfl (lv_at hl 0 rfl) ?_
  refine lv_aload_n hx hb dX1_number_5 rfl (lv_at hl 0 rfl) ?_
  refine lv_iload_n hx hb dX1_number_6 rfl (lv_at hl 1 rfl) ?_
  refine kc0 (fun _ q => q) (va_runV (As := [.int (iZ ((p1 : Nat) : Int))]) (rest := [.ref (q 0)]) ⟨hx, hb, hml, hown, hts⟩ (c_X1_dayNumberAt l dC dI dA k q (σ) _ ⟨tb, tn, tm, htn, hfit, htm, hP⟩ (hOK) p1 (by omega)) (cwV 1 hts (kg_V mw563 mw564 mw14 mw42 rfl mw565) rfl rfl rfl hdV_X1_dayNumberAt ⟨Nat.le_of_ble_eq_true rfl, Nat.le_of_ble_eq_true rfl⟩) ⟨fun a U g mk q => ⟨q.1, q.2.1, kM_call q.2.2⟩, va_recv hM.1 hP (ci := 4) (q0 := 0) rfl rfl, fun U hU hW => ⟨rfl, hU, kM_same hM hU hW⟩⟩ rfl rfl hl.1 rfl (lv_room (Nat.le_of_ble_eq_true rfl)) dX1_number_7 ⟨Nat.le_of_ble_eq_true rfl, Nat.le_of_ble_eq_true rfl⟩) ?_
  have hz9 : (dnum (σ 5 p1) (σ 6 p1) (σ 7 p1)).natAbs < 10000000000000 := by have hn9 := dnum_rng (y := σ 5 p1) (m := σ 6 p1) (d := σ 7 p1) (by omega) (by omega) (by omega); omega
  refine kc2r (va_runV (As := [.long (lZ (dnum (σ 5 p1) (σ 6 p1) (σ 7 p1)))]) (rest := []) ⟨hx, hb, hml, hown, hts⟩ (c_X1_textOf l dC dI dA k q σ _ hG0 hOK hq (dnum (σ 5 p1) (σ 6 p1) (σ 7 p1)) hz9) (cwV 1 hts (kg_V mw885 mw886 mw26 mw42 rfl mw887) rfl rfl rfl hdV_X1_textOf ⟨Nat.le_of_ble_eq_true rfl, Nat.le_of_ble_eq_true rfl⟩) ⟨fun a U g mk q => ⟨q.1, q.2.1, kMJ_call q.2.2⟩, va_recv hMJ.1.1 hP (ci := 4) (q0 := 0) rfl rfl, fun U hU hW => ⟨rfl, hU, kMJ_kept hMJ hS hAN hU hW⟩⟩ rfl rfl hl.1 rfl (lv_room (Nat.le_of_ble_eq_true rfl)) dX1_number_10 ⟨Nat.le_of_ble_eq_true rfl, Nat.le_of_ble_eq_true rfl⟩) hS (fun a _ h => kA_up hS.1 a h) (fun a h => kA_up hS.1 a h) (fun x9 H1 locs hG9 hy9 hk9 hS => ?_)
  generalize H1 = H at hG9 hS ⊢
  refine W.widen (k := 3) (n := 26) (Nat.le_of_ble_eq_true rfl) (Nat.le_of_ble_eq_true rfl) ?_
  refine vx_ret ?_
  exact W.aret (rt := .object "java/lang/String") hx hb hr (Or.inl ⟨_, rfl⟩) (Or.inr ⟨_, rfl⟩) (fun t ht hW => ⟨⟨⟨x9, rfl, by rw [ht]; exact hG9⟩, hS.F ht⟩, ex2_0 (by (simp only [inb, noThing_iff, noThing_niff, Bool.not_eq_true', Bool.not_eq_false', Bool.or_eq_true, Bool.or_eq_false_iff, decide_eq_true_eq, decide_eq_false_iff_not] <;> omega)) (by rfl)⟩) hS.2.2 dX1_number_13 hlocks

