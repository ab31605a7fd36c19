theorem va_Pr {D : va_G} {cl : List vw_C} {a b : va_W} {H : Heap} (h : va_P D cl (a ++ b) H) : va_P D cl b H := fun k q hk => h (a.length + k) q (by
  rw [List.getElem?_append_right (Nat.le_add_right _ _), Nat.add_sub_cancel_left]; exact hk)
theorem kYltR {D : va_G} {cl : List vw_C} {dA : Nat → ClassId} {m0 : Nat} {r : Nat → Nat → Nat} {σ : Nat → Nat → Int} {th : Int} {w : va_W} {H : Heap} (h : va_P D cl (kY dA m0 r σ th ++ w) H) : ∀ i : Nat, i < 17 → kR m0 r i < H.size := fun i hi => by
  have hl : (kY dA m0 r σ th)[i]? = some ((kY dA m0 r σ th)[i]'hi) := List.getElem?_eq_getElem hi
  obtain ⟨-, a2⟩ := kY_at hl
  have h1 := (va_Pl h i _ hl).lt
  rw [a2] at h1
  exact h1
theorem kY_keptB {D : va_G} {cl : List vw_C} {dA : Nat → ClassId} {m0 b v : Nat} {r : Nat → Nat → Nat} {σ : Nat → Nat → Int} {th : Int} {H H1 : Heap} (h : va_P D cl (kY dA m0 r σ th ++ ([] : va_W)) H) (hk : ∀ a : Nat, a < H.size → ¬ kAB b v H.size a → H1[a]? = H[a]?) (hb : ∀ i : Nat, i < 17 → b ≠ kR m0 r i) (hv : ∀ i : Nat, i < 17 → v ≠ kR m0 r i) : va_P D cl (kY dA m0 r σ th ++ ([] : va_W)) H1 := by
  rw [← kap] at h ⊢
  intro i p hp
  obtain ⟨a1, a2⟩ := kY_at hp
  refine (h i p hp).kept (hk _ (h i p hp).lt (fun z => ?_))
  rcases z with z | z | z
  · exact hb i a1 (by rw [← a2, z])
  · exact hv i a1 (by rw [← a2, z])
  · exact absurd (h i p hp).lt (Nat.not_lt.mpr z)
theorem kY_kept0 {D : va_G} {cl : List vw_C} {dA : Nat → ClassId} {m0 b : Nat} {r : Nat → Nat → Nat} {σ : Nat → Nat → Int} {th : Int} {H H1 : Heap} (h : va_P D cl (kY dA m0 r σ th ++ ([] : va_W)) H) (hk : ∀ a : Nat, a < H.size → ¬ kA0 b H.size a → H1[a]? = H[a]?) (hb : ∀ i : Nat, i < 17 → b ≠ kR m0 r i) : va_P D cl (kY dA m0 r σ th ++ ([] : va_W)) H1 :=
  kY_keptB (b := b) (v := b) h (fun a h1 h2 => hk a h1 (fun z => h2 (z.elim Or.inl (fun y => Or.inr (Or.inr y))))) hb hb
theorem kAy_AB {m0 b v : Nat} {r : Nat → Nat → Nat} {sz sz' : Nat} (h : sz ≤ sz') (hb : sz ≤ b) (hv : sz ≤ v) : ∀ a, kAB b v sz' a → kAy m0 r sz a := fun a z => by
  rcases z with z | z | z
  · exact Or.inr (by rw [z]; exact hb)
  · exact Or.inr (by rw [z]; exact hv)
  · exact Or.inr (Nat.le_trans h z)
theorem kAy_A0 {m0 b : Nat} {r : Nat → Nat → Nat} {sz sz' : Nat} (h : sz ≤ sz') (hb : sz ≤ b) : ∀ a, kA0 b sz' a → kAy m0 r sz a := fun a z => by
  rcases z with z | z
  · exact Or.inr (by rw [z]; exact hb)
  · exact Or.inr (Nat.le_trans h z)
/-- a new text of z; the world Y stays -/
def kQYS (dC : Nat → ClassId) (dI : Nat → Nat → Nat) (dA : Nat → ClassId) (Y : va_W) (z : Int) (A : Nat → Prop) : Array Value → State → Outcome → State → Prop := fun _ st oc t => ∃ (q w : Nat) (g : Nat → Int), (oc = .returned (some (.ref q)) ∧ (∀ j, j < TL z → g j = TX z j) ∧ va_P (dC, dI) vwCl Y t.heap ∧ va_P (dC, dI) vwCl (kS q w dA g (TL z)) t.heap) ∧ va_F A st t
theorem kcYS {p : Program} {l : Launch} {e : Env} {R : Room} {s : State} {m : MethodId} {args : Array Value} {below : List Frame} {meth : Method} {c : Code} {H : Heap} {locs : List Loc} {cells slots : Nat} {Q : State → Prop} {pc : Nat} {ls : Array Slot} {rest : List Value} {a : Array Value} {st0 : List Value} {dC : Nat → ClassId} {dI : Nat → Nat → Nat} {dA : Nat → ClassId} {Y : va_W} {z : Int} {A0 A1 : Nat → Prop} {H0 : Heap} {free : Addr → Prop} {mc ms : Nat} (hr : va_Run p l e R s m args below meth c H locs cells slots mc ms (F0 m pc ls st0) rest (kQYS dC dI dA Y z A1 a) free) (hS : va_S A0 H0 H locs) (hA : ∀ q, q < H.size → A1 q → A0 q) (hf : ∀ q, free q → A0 q)
    (kk : ∀ (q w : Nat) (g : Nat → Int) (H1 : Heap) (locs1 : List Loc), (∀ j, j < TL z → g j = TX z j) → va_P (dC, dI) vwCl Y H1 → va_P (dC, dI) vwCl (kS q w dA g (TL z)) H1 → va_S A0 H0 H1 locs1 → W p l e R s m args below meth c H1 locs1 (cells + mc) (slots + ms) Q (F0 m (pc + 3) ls (.ref q :: rest))) : W p l e R s m args below meth c H locs cells slots Q (F0 m pc ls st0) := by
  intro T hT X
  obtain ⟨v1, st₀, t, T', L, h0, X', hL, e1, e2, ⟨q9, w9, g9, ⟨hv, c1, c2, c3⟩, hz, hk⟩, st⟩ := hr T hT X
  cases hv
  rw [h0] at hz hk
  obtain ⟨t2, a1, b1⟩ := kk q9 w9 g9 T'.heap (locs ++ L) c1 (by rw [e1]; exact c2) (by rw [e1]; exact c3)
    ⟨Nat.le_trans hS.1 (by rw [e1]; exact hz), fun q h1 h2 => by rw [e1, hk q (Nat.lt_of_lt_of_le h1 hS.1) (fun z => h2 (hA q (Nat.lt_of_lt_of_le h1 hS.1) z))]; exact hS.2.1 q h1 h2, fun q hq => by
      rcases List.mem_append.mp hq with h | h
      · exact hS.2.2 q h
      · exact hf _ (hL q h)⟩ T' rfl X'
  exact ⟨t2, st t2 a1, b1⟩
theorem kyt_e {d u : Int} (h : 1 ≤ u ∧ u ≤ 4) : tq d (tq (usize u) 12) = tq (12 * d) (usize u) := by
  rw [yus_e h]
  rcases (show u = 1 ∨ u = 2 ∨ u = 3 ∨ u = 4 by omega) with rfl | rfl | rfl | rfl
  · show tq d 1 = tq (12 * d) 12
    unfold tq; split <;> split <;> omega
  · show tq d 10 = tq (12 * d) 120
    unfold tq; split <;> split <;> omega
  · show tq d 100 = tq (12 * d) 1200
    unfold tq; split <;> split <;> omega
  · show tq d 1000 = tq (12 * d) 12000
    unfold tq; split <;> split <;> omega
abbrev ww_X3_add_ : List Cond := .code yX3_add_ cX3_add_ 6 (some .long) :: gT
set_option maxHeartbeats 4000000 in
set_option maxRecDepth 100000 in
theorem c_X3_add_ (l : Launch) (dC : Nat → ClassId) (dI : Nat → Nat → Nat) (dA : Nat → ClassId) (k : Nat → Nat) (q w : Nat) (g : Nat → Int) (zz : Int) (H0 : Heap) (hT : va_P (dC, dI) vwCl (kS q w dA g (TL zz)) H0) (ht : ∀ j, j < TL zz → g j = TX zz j) (hz : zz.natAbs < 10000000000000) (dd : Int) : Met l yX3_add_ ww_X3_add_ ({ frames := 4, cells := 0, slots := 0, locals := 85 }) (va_Pc [.long (lZ (dd)), .ref q] (fun U => U.heap = H0 ∧ kMJ dC dI dA k U)) (kQ0 (some (.long (lZ (wtx dd zz)))) H0) 0 0 kN := by
  refine Met.ofW (cc := cX3_add_) (maxL := 6) (ret := (some .long)) (by decide) rfl ?_
  intro p e s m args below meth c s₁ B hml hv
  obtain ⟨rfl, hH, hMJ⟩ := hv
  subst hH
  have hL := TL_rng hz
  have hx := B.exec
  have hb := B.bytes
  have hr := B.returns
  have hts := atoms_spec (ws := ww_X3_add_) B.pre
  have hown : s.vm.findClass RX3 = some m.cls := findClass_of_methodNamed B.named
  have hlocks := B.notSynchronized
  have hl := lv_entry ([.long (lZ (dd)), .ref q]) (n := 6) (Nat.le_of_ble_eq_true rfl)
  rw [lg_entry_eq]
  generalize (lg_sl ([.long (lZ (dd)), .ref q]) ++ List.replicate (6 - (lg_sl ([.long (lZ (dd)), .ref q])).length) Slot.unset).toArray = ls at hl ⊢
  have hl : lv_has ls 6 [(0, .long (lZ (dd))), (2, .ref q)] := hl
  refine lv_lload_n hx hb dX3_add__0 rfl (lv_at hl 0 rfl) ?_
  refine lv_aload_n hx hb dX3_add__1 rfl (lv_at hl 1 rfl) ?_
  refine kc0 (fun _ q => q) (va_runV (As := []) (rest := [.long (lZ (dd))]) ⟨hx, hb, hml, hown, hts⟩ (c_J0_length_8abf5D l dC dI dA k q w g (TL zz) _ hT (by omega)) (cwV 0 hts (kg_V mw1419 mw326 mw327 mw45 rfl mw328) rfl rfl rfl hdV_J0_length_8abf5 ⟨Nat.le_of_ble_eq_true rfl, Nat.le_of_ble_eq_true rfl⟩) ⟨fun a U g mk q => ⟨q.1, q.2.1, kMJ_call q.2.2⟩, va_recv hMJ.1.1 hT (ci := 0) (q0 := 0) rfl rfl, fun U hU hW => ⟨rfl, hU, kMJ_kept hMJ va_S.rf (fun a (z : False) => z.elim) hU hW⟩⟩ rfl rfl hl.1 rfl (lv_room (Nat.le_of_ble_eq_true rfl)) dX3_add__2 ⟨Nat.le_of_ble_eq_true rfl, Nat.le_of_ble_eq_true rfl⟩) ?_
  refine kz_i2l hx hb (by first | omega | (rw [Int.toNat_natCast, ht _ hk]; have := TX_rng zz kk; omega)) dX3_add__5 ?_
  refine kc0 (fun _ q => q) (va_runS (As := [.long (lZ (dd)), .long (lZ ((((TL zz : Nat) : Int))))]) (rest := []) ⟨hx, hb, hml, hown, hts⟩ (c_X3_add l _ (dd) (((((TL zz : Nat) : Int))))) (va_cwS 2 hts (kg_S mw1413 mw1414 mw47 rfl mw1415) rfl rfl rfl hdS_X3_add ⟨Nat.le_of_ble_eq_true rfl, Nat.le_of_ble_eq_true rfl⟩) ⟨fun a U g mk q => q, fun U hU hW => ⟨rfl, hU⟩⟩ rfl rfl hl.1 rfl (lv_room (Nat.le_of_ble_eq_true rfl)) dX3_add__6 ⟨Nat.le_of_ble_eq_true rfl, Nat.le_of_ble_eq_true rfl⟩) ?_
  refine lv_lstore_n (lv' := [(3, .long (lZ (((dd)) * 31 + ((((((TL zz : Nat) : Int)))))))), (0, .long (lZ (dd))), (2, .ref q)]) hx hb dX3_add__9 rfl hl (by decide) rfl (fun ls hl => ?_)
  refine lv_iconst (v := iZ 0) hx hb dX3_add__10 rfl ?_
  refine lv_istore (lv' := [(5, .int (iZ 0)), (3, .long (lZ (((dd)) * 31 + ((((((TL zz : Nat) : Int)))))))), (0, .long (lZ (dd))), (2, .ref q)]) hx hb dX3_add__11 hl (by decide) rfl (fun ls hl => ?_)
  refine k_loop (W := fun ls => W p l e _ s m _ below meth c s.heap [] 0 0 _ (F0 m 13 ls [])) (I := fun (kk : Nat) ls => lv_has ls 6 [(3, .long (lZ (wtN dd zz kk))), (5, .int (iZ (((kk : Nat) : Int)))), (0, .long (lZ (dd))), (2, .ref q)]) ((TL zz)) 0 (Nat.zero_le _) (by have h9 := (lv_sub hl [1, 0, 2, 3] rfl); exact h9) (fun ls hl => ?_) (fun kk ls hk hl ih => ?_)
  · refine lv_iload hx hb dX3_add__13 (lv_at hl 1 rfl) ?_
    refine lv_aload_n hx hb dX3_add__15 rfl (lv_at hl 3 rfl) ?_
    refine kc0 (fun _ q => q) (va_runV (As := []) (rest := [.int (iZ (((((TL zz)) : Nat) : Int)))]) ⟨hx, hb, hml, hown, hts⟩ (c_J0_length_8abf5D l dC dI dA k q w g (TL zz) _ hT (by omega)) (cwV 0 hts (kg_V mw1419 mw326 mw327 mw45 rfl mw328) rfl rfl rfl hdV_J0_length_8abf5 ⟨Nat.le_of_ble_eq_true rfl, Nat.le_of_ble_eq_true rfl⟩) ⟨fun a U g mk q => ⟨q.1, q.2.1, kMJ_call q.2.2⟩, va_recv hMJ.1.1 hT (ci := 0) (q0 := 0) rfl rfl, fun U hU hW => ⟨rfl, hU, kMJ_kept hMJ va_S.rf (fun a (z : False) => z.elim) hU hW⟩⟩ rfl rfl hl.1 rfl (lv_room (Nat.le_of_ble_eq_true rfl)) dX3_add__16 ⟨Nat.le_of_ble_eq_true rfl, Nat.le_of_ble_eq_true rfl⟩) ?_
    refine kz_icmp_ge (tgt := 40) hx hb (by first | omega | (rw [Int.toNat_natCast, ht _ hk]; have := TX_rng zz kk; omega)) (by first | omega | (rw [Int.toNat_natCast, ht _ hk]; have := TX_rng zz kk; omega)) dX3_add__19 (by decide) (fun c_1 => ?_) (fun c_1 => absurd c_1 (by omega))
    refine lv_lload_n hx hb dX3_add__40 rfl (lv_at hl 0 rfl) ?_
    exact W.lret (v := lZ (wtN dd zz (TL zz))) hx hb hr (fun t ht hW => ⟨rfl, ht⟩) (fun q h => by cases h) dX3_add__41
  · refine lv_iload hx hb dX3_add__13 (lv_at hl 1 rfl) ?_
    refine lv_aload_n hx hb dX3_add__15 rfl (lv_at hl 3 rfl) ?_
    refine kc0 (fun _ q => q) (va_runV (As := []) (rest := [.int (iZ (((kk : Nat) : Int)))]) ⟨hx, hb, hml, hown, hts⟩ (c_J0_length_8abf5D l dC dI dA k q w g (TL zz) _ hT (by omega)) (cwV 0 hts (kg_V mw1419 mw326 mw327 mw45 rfl mw328) rfl rfl rfl hdV_J0_length_8abf5 ⟨Nat.le_of_ble_eq_true rfl, Nat.le_of_ble_eq_true rfl⟩) ⟨fun a U g mk q => ⟨q.1, q.2.1, kMJ_call q.2.2⟩, va_recv hMJ.1.1 hT (ci := 0) (q0 := 0) rfl rfl, fun U hU hW => ⟨rfl, hU, kMJ_kept hMJ va_S.rf (fun a (z : False) => z.elim) hU hW⟩⟩ rfl rfl hl.1 rfl (lv_room (Nat.le_of_ble_eq_true rfl)) dX3_add__16 ⟨Nat.le_of_ble_eq_true rfl, Nat.le_of_ble_eq_true rfl⟩) ?_
    refine kz_icmp_ge (tgt := 40) hx hb (by first | omega | (rw [Int.toNat_natCast, ht _ hk]; have := TX_rng zz kk; omega)) (by first | omega | (rw [Int.toNat_natCast, ht _ hk]; have := TX_rng zz kk; omega)) dX3_add__19 (by decide) (fun c_2 => absurd c_2 (by omega)) (fun c_2 => ?_)
    refine lv_lload_n hx hb dX3_add__22 rfl (lv_at hl 0 rfl) ?_
    refine lv_aload_n hx hb dX3_add__23 rfl (lv_at hl 3 rfl) ?_
    refine lv_iload hx hb dX3_add__24 (lv_at hl 1 rfl) ?_
    refine kc0 (fun _ q => q) (va_runV (As := [.int (iZ (((kk : Nat) : Int)))]) (rest := [.long (lZ (wtN dd zz kk))]) ⟨hx, hb, hml, hown, hts⟩ (c_J0_charAt_5068eD l dC dI dA k q w g (TL zz) _ hT (by omega) ((((kk : Nat) : Int))) (by omega) (by first | omega | (rw [Int.toNat_natCast, ht _ hk]; have := TX_rng zz kk; omega))) (cwV 1 hts (kg_V mw1420 mw1421 mw1422 mw45 rfl mw1423) rfl rfl rfl hdV_J0_charAt_5068e ⟨Nat.le_of_ble_eq_true rfl, Nat.le_of_ble_eq_true rfl⟩) ⟨fun a U g mk q => ⟨q.1, q.2.1, kMJ_call q.2.2⟩, va_recv hMJ.1.1 hT (ci := 0) (q0 := 0) rfl rfl, fun U hU hW => ⟨rfl, hU, kMJ_kept hMJ va_S.rf (fun a (z : False) => z.elim) hU hW⟩⟩ rfl rfl hl.1 rfl (lv_room (Nat.le_of_ble_eq_true rfl)) dX3_add__26 ⟨Nat.le_of_ble_eq_true rfl, Nat.le_of_ble_eq_true rfl⟩) ?_
    refine kz_i2l hx hb (by first | omega | (rw [Int.toNat_natCast, ht _ hk]; have := TX_rng zz kk; omega)) dX3_add__29 ?_
    refine kc0 (fun _ q => q) (va_runS (As := [.long (lZ (wtN dd zz kk)), .long (lZ ((g ((((kk : Nat) : Int))).toNat)))]) (rest := []) ⟨hx, hb, hml, hown, hts⟩ (c_X3_add l _ ((wtN dd zz kk)) (((g ((((kk : Nat) : Int))).toNat)))) (va_cwS 2 hts (kg_S mw1413 mw1414 mw47 rfl mw1415) rfl rfl rfl hdS_X3_add ⟨Nat.le_of_ble_eq_true rfl, Nat.le_of_ble_eq_true rfl⟩) ⟨fun a U g mk q => q, fun U hU hW => ⟨rfl, hU⟩⟩ rfl rfl hl.1 rfl (lv_room (Nat.le_of_ble_eq_true rfl)) dX3_add__30 ⟨Nat.le_of_ble_eq_true rfl, Nat.le_of_ble_eq_true rfl⟩) ?_
    refine lv_lstore_n (lv' := [(3, .long (lZ ((((wtN dd zz kk))) * 31 + ((((g ((((kk : Nat) : Int))).toNat))))))), (5, .int (iZ (((kk : Nat) : Int)))), (0, .long (lZ (dd))), (2, .ref q)]) hx hb dX3_add__33 rfl hl (by decide) rfl (fun ls hl => ?_)
    refine lv_iinc (v := iZ ((((kk : Nat) : Int)) + 1)) (lv' := [(5, .int (iZ ((((kk : Nat) : Int)) + 1))), (3, .long (lZ ((((wtN dd zz kk))) * 31 + ((((g ((((kk : Nat) : Int))).toNat))))))), (0, .long (lZ (dd))), (2, .ref q)]) hx hb dX3_add__34 hl (k := 1) rfl (iZ_add _ _) (by decide) rfl (fun ls hl => ?_)
    refine lv_goto (tgt := 13) hx hb dX3_add__37 (by decide) ?_
    exact ih ls (by have h9 := lv_sub hl [1, 0, 2, 3] rfl; rw [show wtN dd zz kk * 31 + g (((kk : Nat) : Int)).toNat = wtN dd zz (kk + 1) from by rw [Int.toNat_natCast, ht _ hk]; rfl, show ((kk : Nat) : Int) + 1 = ((kk + 1 : Nat) : Int) from by omega] at h9; exact h9)

abbrev ww_X3_leafToNow : List Cond := .code yX3_leafToNow cX3_leafToNow 4 (some (.object "java/lang/String")) :: gT
set_option maxHeartbeats 4000000 in
set_option maxRecDepth 100000 in
theorem c_X3_leafToNow (l : Launch) (dC : Nat → ClassId) (dI : Nat → Nat → Nat) (dA : Nat → ClassId) (k : Nat → Nat) (m0 : Nat) (r0 : Nat → Nat → Nat) (σ : Nat → Nat → Int) (th : Int) (H0 : Heap) (hP : va_P (dC, dI) vwCl (kY dA m0 r0 σ th) H0) (hr : kRI m0 r0 k) (hOK : kOK σ) (pj pi : Nat) (uu : Int) (hpj : pj < 4) (hpi : pi < 4) (h0 : 0 ≤ uu ∧ uu ≤ 4) : Met l yX3_leafToNow ww_X3_leafToNow ({ frames := 7, cells := 4, slots := 40, locals := 191 }) (va_Pc [.ref m0, .int (iZ ((pj : Nat) : Int)), .int (iZ ((pi : Nat) : Int)), .int (iZ uu)] (fun U => U.heap = H0 ∧ kMJ dC dI dA k U)) (kQYS dC dI dA (kY dA m0 r0 σ th) (wyz σ pj pi uu) (kAy m0 r0 H0.size)) 4 40 (kAy m0 r0 H0.size) := by
  refine Met.ofW (cc := cX3_leafToNow) (maxL := 4) (ret := (some (.object "java/lang/String"))) (by decide) rfl ?_
  intro p e s m args below meth c s₁ B hml hv
  obtain ⟨rfl, hH, hMJ⟩ := hv
  subst hH
  have hM := hMJ.1
  have hr0 := hr
  have hAN : ∀ a, kAy m0 r0 s.heap.size a → k 0 ≤ a := fun a h => kAy_N hr0 hM.2.1.1 a h
  have hrA : ∀ i : Nat, i < 17 → kAy m0 r0 s.heap.size (kR m0 r0 i) := fun i hi => Or.inl ⟨i, hi, rfl⟩
  have hD : va_D (kAy m0 r0 s.heap.size) (kY dA m0 r0 σ (th) ++ ([] : va_W)) := by rw [← kap]; exact kYD_A hr hrA
  have hP : va_P (dC, dI) vwCl (kY dA m0 r0 σ (th) ++ ([] : va_W)) s.heap := hP
  have hS : va_S (kAy m0 r0 s.heap.size) s.heap s.heap [] := va_S.rf
  have o_pj := kOKr hOK hpj
  have o_pi := kOKr hOK hpi
  have hx := B.exec
  have hb := B.bytes
  have hr9 := B.returns
  have hts := atoms_spec (ws := ww_X3_leafToNow) B.pre
  have hown : s.vm.findClass RX3 = some m.cls := findClass_of_methodNamed B.named
  have hlocks := B.notSynchronized
  have hl := lv_entry ([.ref m0, .int (iZ ((pj : Nat) : Int)), .int (iZ ((pi : Nat) : Int)), .int (iZ uu)]) (n := 4) (Nat.le_of_ble_eq_true rfl)
  rw [lg_entry_eq]
  generalize (lg_sl ([.ref m0, .int (iZ ((pj : Nat) : Int)), .int (iZ ((pi : Nat) : Int)), .int (iZ uu)]) ++ List.replicate (4 - (lg_sl ([.ref m0, .int (iZ ((pj : Nat) : Int)), .int (iZ ((pi : Nat) : Int)), .int (iZ uu)])).length) Slot.unset).toArray = ls at hl ⊢
  have hl : lv_has ls 4 [(0, .ref m0), (1, .int (iZ ((pj : Nat) : Int))), (2, .int (iZ ((pi : Nat) : Int))), (3, .int (iZ uu))] := hl
  refine va_new (ci := 1) (fs := [.null, .int 0, .int 0, .int 0]) (C := RJ4) (T := TJ4) (N := 4) hx hb hts (fun w h => List.mem_cons_of_mem _ (gF_3_in h)) tyJ4 tyJ4_ok hown (hts _ (List.mem_cons_of_mem _ mw1262)) (hts _ (List.mem_cons_of_mem _ mw72)) (hts _ (List.mem_cons_of_mem _ mw44)) hM.1 hP hD hS kAy_new rfl (fun j hj => by rcases (show j = 0 ∨ j = 1 ∨ j = 2 ∨ j = 3 by omega) with rfl | rfl | rfl | rfl <;> rfl) (show (0 : Nat) + 1 ≤ 4 from by omega) (show (0 : Nat) + 4 ≤ 40 from by omega) dX3_leafToNow_0 (fun b9 H hPn hDn hS => ?_)
  have hnb : ∀ i : Nat, i < 17 → b9 ≠ kR m0 r0 i := kfreshY hDn
  have hbs : s.heap.size ≤ b9 := (hDn.2 17 _ rfl).elim (fun ⟨i9, hi9, e9⟩ => absurd e9 (hnb i9 hi9)) id
  have hkb : k 0 ≤ b9 := hAN _ (hDn.2 17 _ rfl)
  have hB := va_Pr hPn
  have hP : va_P (dC, dI) vwCl (kY dA m0 r0 σ (th) ++ ([] : va_W)) _ := va_Pl hPn
  clear hPn hDn
  have hD : va_D (kAy m0 r0 s.heap.size) (kY dA m0 r0 σ (th) ++ ([] : va_W)) := by rw [← kap]; exact kYD_A hr hrA
  refine lv_dup hx hb dX3_leafToNow_3 rfl ?_
  have hsz9 := hS.1
  have hyl := kYltR hP
  refine kc2 (va_runI (As := []) (rest := [.ref b9]) ⟨hx, hb, hml, hown, hts⟩ (c_J4_init_da8c8 l dC dI dA k b9 _ hB hkb) (cwI 0 hts (kg_G rfl mw75) rfl rfl rfl (hts _ (List.mem_cons_of_mem _ mw44)) (hts _ (List.mem_cons_of_mem _ mw1263)) (hts _ (List.mem_cons_of_mem _ mw74)) rfl (by decide +kernel) ⟨Nat.le_of_ble_eq_true rfl, Nat.le_of_ble_eq_true rfl⟩) ⟨fun a U g mk q => ⟨q.1, q.2.1, kMJ_call q.2.2⟩, fun U hU hW => ⟨rfl, hU, kMJ_kept hMJ hS hAN hU hW⟩⟩ rfl rfl hl.1 rfl (lv_room (Nat.le_of_ble_eq_true rfl)) dX3_leafToNow_4 ⟨show (0 + 1 : Nat) + 1 ≤ 4 from by omega, show (0 + 4 : Nat) + 16 ≤ 40 from by omega⟩) hS (fun a _ h => kAy_A0 hS.1 hbs a h) (fun a h => kAy_A0 hS.1 hbs a h) (fun H1 locs hG hy9 hk9 hS => ?_)
  obtain ⟨v9, hv1, hv2, hB⟩ := hG
  have hvs : s.heap.size ≤ v9 := Nat.le_trans hsz9 hv1
  have hnv : ∀ i : Nat, i < 17 → v9 ≠ kR m0 r0 i := fun i hi z => absurd (hyl i hi) (by rw [← z]; exact Nat.not_lt.mpr hv1)
  have hkv : k 0 ≤ v9 := Nat.le_trans hM.2.1.1 hvs
  have hP := kY_kept0 hP hk9 hnb
  clear hk9 hy9 hyl hsz9 hv1
  generalize H1 = H at hP hS hB ⊢
  have hD : va_D (kAy m0 r0 s.heap.size) (kY dA m0 r0 σ (th) ++ ([] : va_W)) := by rw [← kap]; exact kYD_A hr hrA
  refine va_ldcS hx hb hown (hMJ.2.2.2.2.2.2.2.1) dX3_leafToNow_7 ?_
  refine kc2 (va_runV (As := [.ref (k 7)]) (rest := []) ⟨hx, hb, hml, hown, hts⟩ (c_J4_append_15ec4 l dC dI dA k b9 v9 (fun _ => (0 : Int)) 0 0 _ hB (Or.inl rfl) hv2 hkb hkv kG_0 (by decide)) (cwV 1 hts (kg_V mw1264 mw257 mw258 mw44 rfl mw259) rfl rfl rfl hdV_J4_append_15ec4 ⟨Nat.le_of_ble_eq_true rfl, Nat.le_of_ble_eq_true rfl⟩) ⟨fun a U g mk q => ⟨q.1, q.2.1, kMJ_call q.2.2⟩, va_recv hMJ.1.1 hB (ci := 1) (q0 := 0) rfl rfl, fun U hU hW => ⟨rfl, hU, kMJ_kept hMJ hS hAN hU hW⟩⟩ rfl rfl hl.1 rfl (lv_room (Nat.le_of_ble_eq_true rfl)) dX3_leafToNow_9 ⟨show (0 + 1 + 1 : Nat) + 0 ≤ 4 from by omega, show (0 + 4 + 16 : Nat) + 0 ≤ 40 from by omega⟩) hS (fun a _ h => kAy_AB hS.1 hbs hvs a h) (fun a h => kAy_AB hS.1 hbs hvs a h) (fun H1 locs hG hy9 hk9 hS => ?_)
  obtain ⟨tm9, htm9, hB⟩ := hG
  have hP := kY_keptB hP hk9 hnb hnv
  clear hk9 hy9
  generalize H1 = H at hP hS hB ⊢
  have hD : va_D (kAy m0 r0 s.heap.size) (kY dA m0 r0 σ (th) ++ ([] : va_W)) := by rw [← kap]; exact kYD_A hr hrA
  refine lv_aload_n hx hb dX3_leafToNow_12 rfl (lv_at hl 0 rfl) ?_
  refine va_get (D := (dC, dI)) (ci := 6) (v := .ref (r0 0 1)) (C := RX3) (T := TX3) (N := 6) hx hb hts (fun w h => List.mem_cons_of_mem _ (gF_2_in h)) hown hM.1 hP 0 rfl rfl 0 (by decide) (hts _ (List.mem_cons_of_mem _ mw1007)) (fun _ h9 => h9) rfl dX3_leafToNow_13 ?_
  refine lv_iload_n hx hb dX3_leafToNow_16 rfl (lv_at hl 2 rfl) ?_
  refine kz_aald (v := r0 1 pi) hx hb hM.1 hP 1 rfl (by omega) (by decide) rfl dX3_leafToNow_17 ?_
  refine kc0 (fun _ q => q) (va_runS (As := [.ref (r0 1 pi)]) (rest := [.ref b9]) ⟨hx, hb, hml, hown, hts⟩ (c_X3_countOf l dC dI dA k _ _ hP (5 + pi) (r0 1 pi) _ (σ 0 pi) (σ 1 pi) (kY_L _ hpi) rfl rfl (by omega) (by omega)) (va_cwS 1 hts (kg_S mw1070 mw1071 mw47 rfl mw1072) rfl rfl rfl hdS_X3_countOf ⟨Nat.le_of_ble_eq_true rfl, Nat.le_of_ble_eq_true rfl⟩) ⟨fun a U g mk q => ⟨q.1, q.2.1, kM_call q.2.2⟩, fun U hU hW => ⟨rfl, hU, kM_kept hM hS hAN hU hW⟩⟩ rfl rfl hl.1 rfl (lv_room (Nat.le_of_ble_eq_true rfl)) dX3_leafToNow_18 ⟨show (0 + 1 + 1 : Nat) + 0 ≤ 4 from by omega, show (0 + 4 + 16 : Nat) + 0 ≤ 40 from by omega⟩) ?_
  refine lv_aload_n hx hb dX3_leafToNow_21 rfl (lv_at hl 0 rfl) ?_
  refine va_get (D := (dC, dI)) (ci := 6) (v := .ref (r0 0 1)) (C := RX3) (T := TX3) (N := 6) hx hb hts (fun w h => List.mem_cons_of_mem _ (gF_2_in h)) hown hM.1 hP 0 rfl rfl 0 (by decide) (hts _ (List.mem_cons_of_mem _ mw1007)) (fun _ h9 => h9) rfl dX3_leafToNow_22 ?_
  refine lv_iload_n hx hb dX3_leafToNow_25 rfl (lv_at hl 1 rfl) ?_
  refine kz_aald (v := r0 1 pj) hx hb hM.1 hP 1 rfl (by omega) (by decide) rfl dX3_leafToNow_26 ?_
  refine kc0 (fun _ q => q) (va_runS (As := [.ref (r0 1 pj)]) (rest := [.long (lZ (cnt ((σ 0 pi)) ((σ 1 pi)))), .ref b9]) ⟨hx, hb, hml, hown, hts⟩ (c_X3_countOf l dC dI dA k _ _ hP (5 + pj) (r0 1 pj) _ (σ 0 pj) (σ 1 pj) (kY_L _ hpj) rfl rfl (by omega) (by omega)) (va_cwS 1 hts (kg_S mw1070 mw1071 mw47 rfl mw1072) rfl rfl rfl hdS_X3_countOf ⟨Nat.le_of_ble_eq_true rfl, Nat.le_of_ble_eq_true rfl⟩) ⟨fun a U g mk q => ⟨q.1, q.2.1, kM_call q.2.2⟩, fun U hU hW => ⟨rfl, hU, kM_kept hM hS hAN hU hW⟩⟩ rfl rfl hl.1 rfl (lv_room (Nat.le_of_ble_eq_true rfl)) dX3_leafToNow_27 ⟨show (0 + 1 + 1 : Nat) + 0 ≤ 4 from by omega, show (0 + 4 + 16 : Nat) + 0 ≤ 40 from by omega⟩) ?_
  refine kz_lsub hx hb dX3_leafToNow_30 ?_
  refine va_gets (v := .ref (k 4)) hx hb hM.2.1.2.2.2.2.2.2.2.1 (kSN hS hAN) hown (hts _ (List.mem_cons_of_mem _ mw1091)) (fun _ h9 => h9) dX3_leafToNow_31 ?_
  refine lv_iload_n hx hb dX3_leafToNow_34 rfl (lv_at hl 3 rfl) ?_
  refine kz_ti (v := usize uu) hx hb hM.2.1.2.2.2.2.2.2.2.2.1 (kSN hS hAN) (by first | omega | (have hu := usize_rng uu; omega)) (by decide) (by unfold usize; (repeat' split) <;> simp_all <;> omega) dX3_leafToNow_35 ?_
  refine kz_i2l hx hb (by first | omega | (have hu := usize_rng uu; omega)) dX3_leafToNow_36 ?_
  refine kz_ldiv hx hb (by first | omega | (have hu := usize_rng uu; omega)) (by first | omega | (have hu := usize_rng uu; omega)) dX3_leafToNow_37 ?_
  have hz9 : (tq ((cnt ((σ 0 pi)) ((σ 1 pi))) - (cnt ((σ 0 pj)) ((σ 1 pj)))) ((usize uu))).natAbs < 10000000000000 := wyz_13 hOK hpj hpi uu
  refine kc2 (va_runV (As := [.long (lZ (tq ((cnt ((σ 0 pi)) ((σ 1 pi))) - (cnt ((σ 0 pj)) ((σ 1 pj)))) ((usize uu))))]) (rest := []) ⟨hx, hb, hml, hown, hts⟩ (c_J4_append_f7089 l dC dI dA k b9 v9 (fun _ => (0 : Int)) tm9 _ hB htm9 hv2 hkb hkv kG_0 (tq ((cnt ((σ 0 pi)) ((σ 1 pi))) - (cnt ((σ 0 pj)) ((σ 1 pj)))) ((usize uu))) hz9) (cwV 1 hts (kg_V mw1265 mw1266 mw1267 mw44 rfl mw1268) rfl rfl rfl hdV_J4_append_f7089 ⟨Nat.le_of_ble_eq_true rfl, Nat.le_of_ble_eq_true rfl⟩) ⟨fun a U g mk q => ⟨q.1, q.2.1, kMJ_call q.2.2⟩, va_recv hMJ.1.1 hB (ci := 1) (q0 := 0) rfl rfl, fun U hU hW => ⟨rfl, hU, kMJ_kept hMJ hS hAN hU hW⟩⟩ rfl rfl hl.1 rfl (lv_room (Nat.le_of_ble_eq_true rfl)) dX3_leafToNow_38 ⟨show (0 + 1 + 1 : Nat) + 0 ≤ 4 from by omega, show (0 + 4 + 16 : Nat) + 0 ≤ 40 from by omega⟩) hS (fun a _ h => kAy_AB hS.1 hbs hvs a h) (fun a h => kAy_AB hS.1 hbs hvs a h) (fun H1 locs hG hy9 hk9 hS => ?_)
  obtain ⟨g9, hg9, ht9, tm9, htm9, hB⟩ := hG
  have hP := kY_keptB hP hk9 hnb hnv
  clear hk9 hy9
  generalize H1 = H at hP hS hB ⊢
  have hD : va_D (kAy m0 r0 s.heap.size) (kY dA m0 r0 σ (th) ++ ([] : va_W)) := by rw [← kap]; exact kYD_A hr hrA
  refine kcS (va_runV (As := []) (rest := []) ⟨hx, hb, hml, hown, hts⟩ (c_J4_toString_0e30d l dC dI dA k b9 v9 g9 tm9 (TL (tq ((cnt ((σ 0 pi)) ((σ 1 pi))) - (cnt ((σ 0 pj)) ((σ 1 pj)))) ((usize uu)))) _ hB htm9 hv2 hkb hkv hg9 (by have := TL_rng hz9; omega)) (cwV 0 hts (kg_V mw1292 mw389 mw390 mw44 rfl mw391) rfl rfl rfl hdV_J4_toString_0e30d ⟨Nat.le_of_ble_eq_true rfl, Nat.le_of_ble_eq_true rfl⟩) ⟨fun a U g mk q => ⟨q.1, q.2.1, kMJ_call q.2.2⟩, va_recv hMJ.1.1 hB (ci := 1) (q0 := 0) rfl rfl, fun U hU hW => ⟨rfl, hU, kMJ_kept hMJ hS hAN hU hW⟩⟩ rfl rfl hl.1 rfl (lv_room (Nat.le_of_ble_eq_true rfl)) dX3_leafToNow_41 ⟨show (0 + 1 + 1 : Nat) + 2 ≤ 4 from by omega, show (0 + 4 + 16 : Nat) + 20 ≤ 40 from by omega⟩) hS (fun a _ h => kAy_AB hS.1 hbs hvs a h) (fun a h => kAy_AB hS.1 hbs hvs a h) (fun x9 w9 H1 locs hq1 hq2 hq3 hP9 hy9 hk9 hS => ?_)
  have hT := va_Pr hP9
  have hP := kY_keptB hP hk9 hnb hnv
  have htx : ∀ j, j < TL (tq ((cnt ((σ 0 pi)) ((σ 1 pi))) - (cnt ((σ 0 pj)) ((σ 1 pj)))) ((usize uu))) → cp g9 (fun _ => 0) (TL (tq ((cnt ((σ 0 pi)) ((σ 1 pi))) - (cnt ((σ 0 pj)) ((σ 1 pj)))) ((usize uu)))) j = TX (tq ((cnt ((σ 0 pi)) ((σ 1 pi))) - (cnt ((σ 0 pj)) ((σ 1 pj)))) ((usize uu))) j := fun j hj => by rw [cp_in hj]; exact ht9 j hj
  clear hk9 hy9 hP9 hB hq1 hq2 hq3
  generalize H1 = H at hP hS hT ⊢
  have hD : va_D (kAy m0 r0 s.heap.size) (kY dA m0 r0 σ (th) ++ ([] : va_W)) := by rw [← kap]; exact kYD_A hr hrA
  refine W.widen (k := 4) (n := 40) (show (0 + 1 + 1 + 2 : Nat) ≤ 4 from by omega) (show (0 + 4 + 16 + 20 : Nat) ≤ 40 from by omega) ?_
  exact W.aret (rt := .object "java/lang/String") hx hb hr9 (Or.inl ⟨_, rfl⟩) (Or.inr ⟨_, rfl⟩) (fun t ht hW => ⟨x9, w9, _, ⟨rfl, htx, by rw [ht]; exact va_Pl hP, by rw [ht]; exact hT⟩, hS.F ht⟩) hS.2.2 dX3_leafToNow_44 hlocks

abbrev ww_X3_count : List Cond := .code yX3_count cX3_count 2 (some (.object "java/lang/String")) :: gT
set_option maxHeartbeats 4000000 in
set_option maxRecDepth 100000 in
theorem c_X3_count (l : Launch) (dC : Nat → ClassId) (dI : Nat → Nat → Nat) (dA : Nat → ClassId) (k : Nat → Nat) (m0 : Nat) (r0 : Nat → Nat → Nat) (σ : Nat → Nat → Int) (th : Int) (H0 : Heap) (hP : va_P (dC, dI) vwCl (kY dA m0 r0 σ th) H0) (hr : kRI m0 r0 k) (hOK : kOK σ) (z1 : Int) (rz1 : -2147483648 ≤ z1 ∧ z1 < 2147483648) : Met l yX3_count ww_X3_count ({ frames := 7, cells := 4, slots := 40, locals := 191 }) (va_Pc [.ref m0, .int (iZ z1)] (fun U => U.heap = H0 ∧ kMJ dC dI dA k U)) (kQ2r (fun x H => va_P (dC, dI) vwCl (kY dA m0 r0 σ (ex2 (!inb z1 0 3) (false))) H ∧ (ex2 (!inb z1 0 3) (false) = 0 → kTX dC dI dA (cnt (σ 0 z1.toNat) (σ 1 z1.toNat)) x H)) (kAy m0 r0 H0.size)) 4 40 (kAy m0 r0 H0.size) := by
  refine Met.ofW (cc := cX3_count) (maxL := 2) (ret := (some (.object "java/lang/String"))) (by decide) rfl ?_
  intro p e s m args below meth c s₁ B hml hv
  obtain ⟨rfl, hH, hMJ⟩ := hv
  subst hH
  have hM := hMJ.1
  have hr0 := hr
  have hAN : ∀ a, kAy m0 r0 s.heap.size a → k 0 ≤ a := fun a h => kAy_N hr0 hM.2.1.1 a h
  have hrA : ∀ i : Nat, i < 17 → kAy m0 r0 s.heap.size (kR m0 r0 i) := fun i hi => Or.inl ⟨i, hi, rfl⟩
  have hD : va_D (kAy m0 r0 s.heap.size) (kY dA m0 r0 σ (th) ++ ([] : va_W)) := by rw [← kap]; exact kYD_A hr hrA
  have hP : va_P (dC, dI) vwCl (kY dA m0 r0 σ (th) ++ ([] : va_W)) s.heap := hP
  have hS : va_S (kAy m0 r0 s.heap.size) s.heap s.heap [] := va_S.rf
  have hx := B.exec
  have hb := B.bytes
  have hr9 := B.returns
  have hts := atoms_spec (ws := ww_X3_count) B.pre
  have hown : s.vm.findClass RX3 = some m.cls := findClass_of_methodNamed B.named
  have hlocks := B.notSynchronized
  have hl := lv_entry ([.ref m0, .int (iZ z1)]) (n := 2) (Nat.le_of_ble_eq_true rfl)
  rw [lg_entry_eq]
  generalize (lg_sl ([.ref m0, .int (iZ z1)]) ++ List.replicate (2 - (lg_sl ([.ref m0, .int (iZ z1)])).length) Slot.unset).toArray = ls at hl ⊢
  have hl : lv_has ls 2 [(0, .ref m0), (1, .int (iZ z1))] := hl
  refine lv_aload_n hx hb dX3_count_0 rfl (lv_at hl 0 rfl) ?_
  refine lv_iload_n hx hb dX3_count_1 rfl (lv_at hl 1 rfl) ?_
  refine kc0 (fun _ q => q) (va_runS (As := [.int (iZ z1)]) (rest := [.ref m0]) ⟨hx, hb, hml, hown, hts⟩ (c_X3_isNo l _ (z1) (by omega)) (va_cwS 1 hts (kg_S mw1021 mw1022 mw47 rfl mw1023) rfl rfl rfl hdS_X3_isNo ⟨Nat.le_of_ble_eq_true rfl, Nat.le_of_ble_eq_true rfl⟩) ⟨fun a U g mk q => q, fun U hU hW => ⟨rfl, hU⟩⟩ rfl rfl hl.1 rfl (lv_room (Nat.le_of_ble_eq_true rfl)) dX3_count_2 ⟨show (0 : Nat) + 0 ≤ 4 from by omega, show (0 : Nat) + 0 ≤ 40 from by omega⟩) ?_
  refine lv_iconst (v := iZ 0) hx hb dX3_count_5 rfl ?_
  refine kc2 (va_runV (As := [.int (iZ (bZ (!inb ((z1)) 0 3))), .int (iZ (bZ false))]) (rest := []) ⟨hx, hb, hml, hown, hts⟩ (c_X3_fails l dC dI dA k m0 (r0) (σ) (th) _ (va_Pl hP) hr hOK (!inb ((z1)) 0 3) false ) (cwV 2 hts (kg_V mw1037 mw1038 mw27 mw47 rfl mw1039) rfl rfl rfl hdV_X3_fails ⟨Nat.le_of_ble_eq_true rfl, Nat.le_of_ble_eq_true rfl⟩) ⟨fun a U g mk q => ⟨q.1, q.2.1, kM_call q.2.2⟩, va_recv hM.1 hP (ci := 6) (q0 := 0) rfl rfl, fun U hU hW => ⟨rfl, hU, kM_kept hM hS hAN hU hW⟩⟩ rfl rfl hl.1 rfl (lv_room (Nat.le_of_ble_eq_true rfl)) dX3_count_6 ⟨show (0 : Nat) + 0 ≤ 4 from by omega, show (0 : Nat) + 0 ≤ 40 from by omega⟩) hS (fun a _ h => kAy_tr hrA hS.1 a h) (fun a h => kAy_tr hrA hS.1 a h) (fun H locs hP9 hz9 hk9 hS => ?_)
  have hP : va_P (dC, dI) vwCl (kY dA m0 r0 σ (ex2 ((!inb ((z1)) 0 3)) false) ++ ([] : va_W)) _ := hP9
  have hD : va_D (kAy m0 r0 s.heap.size) (kY dA m0 r0 σ (ex2 ((!inb ((z1)) 0 3)) false) ++ ([] : va_W)) := by rw [← kap]; exact kYD_A hr hrA
  refine kz_ifb_eq (tgt := 17) hx hb  dX3_count_9 (by decide) (fun c_1 => ?_) (fun c_1 => ?_)
  · have hX : ex2 (!inb z1 0 3) (false) = ex2 (!inb ((z1)) 0 3) false := by first | rfl | simp only [Bool.true_or, Bool.or_true, Bool.false_or, Bool.or_false, Bool.not_true, Bool.not_false]
    have hZ : ex2 (!inb z1 0 3) (false) = 0 := kf_eq hX c_1
    obtain ⟨hA9, hB9⟩ := ex2_z hZ
    simp only [Bool.or_eq_false_iff, Bool.not_eq_false', Bool.not_eq_true', inb, decide_eq_true_eq, decide_eq_false_iff_not, noThing_niff] at hA9
    obtain ⟨p1, hp1, rfl⟩ : ∃ p1 : Nat, p1 < 4 ∧ z1 = (p1 : Int) := ⟨z1.toNat, by omega, by omega⟩
    have o_p1 := kOKr hOK hp1
    have l_p1 := mlen_rng (leap (σ 0 p1)) (σ 1 p1)
    have n_p1 := dnum_rng (y := σ 5 p1) (m := σ 6 p1) (d := σ 7 p1) (by omega) (by omega) (by omega)
    have hP := kY0 hP (kf_e c_1)
    have hD := kD0 hD (kf_e c_1)
    refine va_new (ci := 1) (fs := [.null, .int 0, .int 0, .int 0]) (C := RJ4) (T := TJ4) (N := 4) hx hb hts (fun w h => List.mem_cons_of_mem _ (gF_3_in h)) tyJ4 tyJ4_ok hown (hts _ (List.mem_cons_of_mem _ mw1262)) (hts _ (List.mem_cons_of_mem _ mw72)) (hts _ (List.mem_cons_of_mem _ mw44)) hM.1 hP hD hS kAy_new rfl (fun j hj => by rcases (show j = 0 ∨ j = 1 ∨ j = 2 ∨ j = 3 by omega) with rfl | rfl | rfl | rfl <;> rfl) (show (0 : Nat) + 1 ≤ 4 from by omega) (show (0 : Nat) + 4 ≤ 40 from by omega) dX3_count_17 (fun b9 H hPn hDn hS => ?_)
    have hnb : ∀ i : Nat, i < 17 → b9 ≠ kR m0 r0 i := kfreshY hDn
    have hbs : s.heap.size ≤ b9 := (hDn.2 17 _ rfl).elim (fun ⟨i9, hi9, e9⟩ => absurd e9 (hnb i9 hi9)) id
    have hkb : k 0 ≤ b9 := hAN _ (hDn.2 17 _ rfl)
    have hB := va_Pr hPn
    have hP : va_P (dC, dI) vwCl (kY dA m0 r0 σ (0) ++ ([] : va_W)) _ := va_Pl hPn
    clear hPn hDn
    have hD : va_D (kAy m0 r0 s.heap.size) (kY dA m0 r0 σ (0) ++ ([] : va_W)) := by rw [← kap]; exact kYD_A hr hrA
    refine lv_dup hx hb dX3_count_20 rfl ?_
    have hsz9 := hS.1
    have hyl := kYltR hP
    refine kc2 (va_runI (As := []) (rest := [.ref b9]) ⟨hx, hb, hml, hown, hts⟩ (c_J4_init_da8c8 l dC dI dA k b9 _ hB hkb) (cwI 0 hts (kg_G rfl mw75) rfl rfl rfl (hts _ (List.mem_cons_of_mem _ mw44)) (hts _ (List.mem_cons_of_mem _ mw1263)) (hts _ (List.mem_cons_of_mem _ mw74)) rfl (by decide +kernel) ⟨Nat.le_of_ble_eq_true rfl, Nat.le_of_ble_eq_true rfl⟩) ⟨fun a U g mk q => ⟨q.1, q.2.1, kMJ_call q.2.2⟩, fun U hU hW => ⟨rfl, hU, kMJ_kept hMJ hS hAN hU hW⟩⟩ rfl rfl hl.1 rfl (lv_room (Nat.le_of_ble_eq_true rfl)) dX3_count_21 ⟨show (0 + 1 : Nat) + 1 ≤ 4 from by omega, show (0 + 4 : Nat) + 16 ≤ 40 from by omega⟩) hS (fun a _ h => kAy_A0 hS.1 hbs a h) (fun a h => kAy_A0 hS.1 hbs a h) (fun H1 locs hG hy9 hk9 hS => ?_)
    obtain ⟨v9, hv1, hv2, hB⟩ := hG
    have hvs : s.heap.size ≤ v9 := Nat.le_trans hsz9 hv1
    have hnv : ∀ i : Nat, i < 17 → v9 ≠ kR m0 r0 i := fun i hi z => absurd (hyl i hi) (by rw [← z]; exact Nat.not_lt.mpr hv1)
    have hkv : k 0 ≤ v9 := Nat.le_trans hM.2.1.1 hvs
    have hP := kY_kept0 hP hk9 hnb
    clear hk9 hy9 hyl hsz9 hv1
    generalize H1 = H at hP hS hB ⊢
    have hD : va_D (kAy m0 r0 s.heap.size) (kY dA m0 r0 σ (0) ++ ([] : va_W)) := by rw [← kap]; exact kYD_A hr hrA
    refine va_ldcS hx hb hown (hMJ.2.2.2.2.2.2.2.1) dX3_count_24 ?_
    refine kc2 (va_runV (As := [.ref (k 7)]) (rest := []) ⟨hx, hb, hml, hown, hts⟩ (c_J4_append_15ec4 l dC dI dA k b9 v9 (fun _ => (0 : Int)) 0 0 _ hB (Or.inl rfl) hv2 hkb hkv kG_0 (by decide)) (cwV 1 hts (kg_V mw1264 mw257 mw258 mw44 rfl mw259) rfl rfl rfl hdV_J4_append_15ec4 ⟨Nat.le_of_ble_eq_true rfl, Nat.le_of_ble_eq_true rfl⟩) ⟨fun a U g mk q => ⟨q.1, q.2.1, kMJ_call q.2.2⟩, va_recv hMJ.1.1 hB (ci := 1) (q0 := 0) rfl rfl, fun U hU hW => ⟨rfl, hU, kMJ_kept hMJ hS hAN hU hW⟩⟩ rfl rfl hl.1 rfl (lv_room (Nat.le_of_ble_eq_true rfl)) dX3_count_26 ⟨show (0 + 1 + 1 : Nat) + 0 ≤ 4 from by omega, show (0 + 4 + 16 : Nat) + 0 ≤ 40 from by omega⟩) hS (fun a _ h => kAy_AB hS.1 hbs hvs a h) (fun a h => kAy_AB hS.1 hbs hvs a h) (fun H1 locs hG hy9 hk9 hS => ?_)
    obtain ⟨tm9, htm9, hB⟩ := hG
    have hP := kY_keptB hP hk9 hnb hnv
    clear hk9 hy9
    generalize H1 = H at hP hS hB ⊢
    have hD : va_D (kAy m0 r0 s.heap.size) (kY dA m0 r0 σ (0) ++ ([] : va_W)) := by rw [← kap]; exact kYD_A hr hrA
    refine lv_aload_n hx hb dX3_count_29 rfl (lv_at hl 0 rfl) ?_
    refine va_get (D := (dC, dI)) (ci := 6) (v := .ref (r0 0 1)) (C := RX3) (T := TX3) (N := 6) hx hb hts (fun w h => List.mem_cons_of_mem _ (gF_2_in h)) hown hM.1 hP 0 rfl rfl 0 (by decide) (hts _ (List.mem_cons_of_mem _ mw1007)) (fun _ h9 => h9) rfl dX3_count_30 ?_
    refine lv_iload_n hx hb dX3_count_33 rfl (lv_at hl 1 rfl) ?_
    refine kz_aald (v := r0 1 p1) hx hb hM.1 hP 1 rfl (by omega) (by decide) rfl dX3_count_34 ?_
    refine kc0 (fun _ q => q) (va_runS (As := [.ref (r0 1 p1)]) (rest := [.ref b9]) ⟨hx, hb, hml, hown, hts⟩ (c_X3_countOf l dC dI dA k _ _ hP (5 + p1) (r0 1 p1) _ (σ 0 p1) (σ 1 p1) (kY_L _ hp1) rfl rfl (by omega) (by omega)) (va_cwS 1 hts (kg_S mw1070 mw1071 mw47 rfl mw1072) rfl rfl rfl hdS_X3_countOf ⟨Nat.le_of_ble_eq_true rfl, Nat.le_of_ble_eq_true rfl⟩) ⟨fun a U g mk q => ⟨q.1, q.2.1, kM_call q.2.2⟩, fun U hU hW => ⟨rfl, hU, kM_kept hM hS hAN hU hW⟩⟩ rfl rfl hl.1 rfl (lv_room (Nat.le_of_ble_eq_true rfl)) dX3_count_35 ⟨show (0 + 1 + 1 : Nat) + 0 ≤ 4 from by omega, show (0 + 4 + 16 : Nat) + 0 ≤ 40 from by omega⟩) ?_
    have hz9 : (cnt ((σ 0 p1)) ((σ 1 p1))).natAbs < 10000000000000 := cnt_13 hOK hp1
    refine kc2 (va_runV (As := [.long (lZ (cnt ((σ 0 p1)) ((σ 1 p1))))]) (rest := []) ⟨hx, hb, hml, hown, hts⟩ (c_J4_append_f7089 l dC dI dA k b9 v9 (fun _ => (0 : Int)) tm9 _ hB htm9 hv2 hkb hkv kG_0 (cnt ((σ 0 p1)) ((σ 1 p1))) hz9) (cwV 1 hts (kg_V mw1265 mw1266 mw1267 mw44 rfl mw1268) rfl rfl rfl hdV_J4_append_f7089 ⟨Nat.le_of_ble_eq_true rfl, Nat.le_of_ble_eq_true rfl⟩) ⟨fun a U g mk q => ⟨q.1, q.2.1, kMJ_call q.2.2⟩, va_recv hMJ.1.1 hB (ci := 1) (q0 := 0) rfl rfl, fun U hU hW => ⟨rfl, hU, kMJ_kept hMJ hS hAN hU hW⟩⟩ rfl rfl hl.1 rfl (lv_room (Nat.le_of_ble_eq_true rfl)) dX3_count_38 ⟨show (0 + 1 + 1 : Nat) + 0 ≤ 4 from by omega, show (0 + 4 + 16 : Nat) + 0 ≤ 40 from by omega⟩) hS (fun a _ h => kAy_AB hS.1 hbs hvs a h) (fun a h => kAy_AB hS.1 hbs hvs a h) (fun H1 locs hG hy9 hk9 hS => ?_)
    obtain ⟨g9, hg9, ht9, tm9, htm9, hB⟩ := hG
    have hP := kY_keptB hP hk9 hnb hnv
    clear hk9 hy9
    generalize H1 = H at hP hS hB ⊢
    have hD : va_D (kAy m0 r0 s.heap.size) (kY dA m0 r0 σ (0) ++ ([] : va_W)) := by rw [← kap]; exact kYD_A hr hrA
    refine kcS (va_runV (As := []) (rest := []) ⟨hx, hb, hml, hown, hts⟩ (c_J4_toString_0e30d l dC dI dA k b9 v9 g9 tm9 (TL (cnt ((σ 0 p1)) ((σ 1 p1)))) _ hB htm9 hv2 hkb hkv hg9 (by have := TL_rng hz9; omega)) (cwV 0 hts (kg_V mw1292 mw389 mw390 mw44 rfl mw391) rfl rfl rfl hdV_J4_toString_0e30d ⟨Nat.le_of_ble_eq_true rfl, Nat.le_of_ble_eq_true rfl⟩) ⟨fun a U g mk q => ⟨q.1, q.2.1, kMJ_call q.2.2⟩, va_recv hMJ.1.1 hB (ci := 1) (q0 := 0) rfl rfl, fun U hU hW => ⟨rfl, hU, kMJ_kept hMJ hS hAN hU hW⟩⟩ rfl rfl hl.1 rfl (lv_room (Nat.le_of_ble_eq_true rfl)) dX3_count_41 ⟨show (0 + 1 + 1 : Nat) + 2 ≤ 4 from by omega, show (0 + 4 + 16 : Nat) + 20 ≤ 40 from by omega⟩) hS (fun a _ h => kAy_AB hS.1 hbs hvs a h) (fun a h => kAy_AB hS.1 hbs hvs a h) (fun x9 w9 H1 locs hq1 hq2 hq3 hP9 hy9 hk9 hS => ?_)
    have hT := va_Pr hP9
    have hP := kY_keptB hP hk9 hnb hnv
    have htx : ∀ j, j < TL (cnt ((σ 0 p1)) ((σ 1 p1))) → cp g9 (fun _ => 0) (TL (cnt ((σ 0 p1)) ((σ 1 p1)))) j = TX (cnt ((σ 0 p1)) ((σ 1 p1))) j := fun j hj => by rw [cp_in hj]; exact ht9 j hj
    clear hk9 hy9 hP9 hB hq1 hq2 hq3
    generalize H1 = H at hP hS hT ⊢
    have hD : va_D (kAy m0 r0 s.heap.size) (kY dA m0 r0 σ (0) ++ ([] : va_W)) := by rw [← kap]; exact kYD_A hr hrA
    refine W.widen (k := 4) (n := 40) (show (0 + 1 + 1 + 2 : Nat) ≤ 4 from by omega) (show (0 + 4 + 16 + 20 : Nat) ≤ 40 from by omega) ?_
    exact W.aret (rt := .object "java/lang/String") hx hb hr9 (Or.inl ⟨_, rfl⟩) (Or.inr ⟨_, rfl⟩) (fun t ht hW => ⟨⟨x9, rfl, ⟨kYcast (by rw [ht]; exact va_Pl hP) rfl (show (0) = ex2 (!inb ((p1 : Nat) : Int) 0 3) (false) from hZ.symm), fun _ => by rw [ht]; exact kTX_e (rfl) ⟨w9, _, (TL_rng hz9).2, htx, hT⟩⟩⟩, hS.F ht⟩) hS.2.2 dX3_count_44 hlocks
  · have hX : ex2 (!inb z1 0 3) (false) = ex2 (!inb ((z1)) 0 3) false := by first | rfl | simp only [Bool.true_or, Bool.or_true, Bool.false_or, Bool.or_false, Bool.not_true, Bool.not_false]
    have hN : ¬ ex2 (!inb z1 0 3) (false) = 0 := kf_ne hX c_1
    refine va_ldcS hx hb hown (hMJ.2.2.2.2.2.2.2.1) dX3_count_12 ?_
    refine lv_goto (tgt := 44) hx hb dX3_count_14 (by decide) ?_
    refine W.widen (k := 4) (n := 40) (show (0 : Nat) ≤ 4 from by omega) (show (0 : Nat) ≤ 40 from by omega) ?_
    exact W.aret (rt := .object "java/lang/String") hx hb hr9 (Or.inl ⟨_, rfl⟩) (Or.inr ⟨_, rfl⟩) (fun t ht hW => ⟨⟨k 7, rfl, ⟨kYcast (by rw [ht]; exact va_Pl hP) rfl (show (ex2 ((!inb ((z1)) 0 3)) false) = ex2 (!inb z1 0 3) (false) from hX.symm), fun z => absurd z hN⟩⟩, hS.F ht⟩) hS.2.2 dX3_count_44 hlocks

abbrev ww_X3_number : List Cond := .code yX3_number cX3_number 2 (some (.object "java/lang/String")) :: gT
set_option maxHeartbeats 4000000 in
set_option maxRecDepth 100000 in
theorem c_X3_number (l : Launch) (dC : Nat → ClassId) (dI : Nat → Nat → Nat) (dA : Nat → ClassId) (k : Nat → Nat) (m0 : Nat) (r0 : Nat → Nat → Nat) (σ : Nat → Nat → Int) (th : Int) (H0 : Heap) (hP : va_P (dC, dI) vwCl (kY dA m0 r0 σ th) H0) (hr : kRI m0 r0 k) (hOK : kOK σ) (z1 : Int) (rz1 : -2147483648 ≤ z1 ∧ z1 < 2147483648) : Met l yX3_number ww_X3_number ({ frames := 7, cells := 4, slots := 40, locals := 191 }) (va_Pc [.ref m0, .int (iZ z1)] (fun U => U.heap = H0 ∧ kMJ dC dI dA k U)) (kQ2r (fun x H => va_P (dC, dI) vwCl (kY dA m0 r0 σ (ex2 (!inb z1 0 3) (false))) H ∧ (ex2 (!inb z1 0 3) (false) = 0 → kTX dC dI dA (dnum (σ 5 z1.toNat) (σ 6 z1.toNat) (σ 7 z1.toNat)) x H)) (kAy m0 r0 H0.size)) 4 40 (kAy m0 r0 H0.size) := by
  refine Met.ofW (cc := cX3_number) (maxL := 2) (ret := (some (.object "java/lang/String"))) (by decide) rfl ?_
  intro p e s m args below meth c s₁ B hml hv
  obtain ⟨rfl, hH, hMJ⟩ := hv
  subst hH
  have hM := hMJ.1
  have hr0 := hr
  have hAN : ∀ a, kAy m0 r0 s.heap.size a → k 0 ≤ a := fun a h => kAy_N hr0 hM.2.1.1 a h
  have hrA : ∀ i : Nat, i < 17 → kAy m0 r0 s.heap.size (kR m0 r0 i) := fun i hi => Or.inl ⟨i, hi, rfl⟩
  have hD : va_D (kAy m0 r0 s.heap.size) (kY dA m0 r0 σ (th) ++ ([] : va_W)) := by rw [← kap]; exact kYD_A hr hrA
  have hP : va_P (dC, dI) vwCl (kY dA m0 r0 σ (th) ++ ([] : va_W)) s.heap := hP
  have hS : va_S (kAy m0 r0 s.heap.size) s.heap s.heap [] := va_S.rf
  have hx := B.exec
  have hb := B.bytes
  have hr9 := B.returns
  have hts := atoms_spec (ws := ww_X3_number) B.pre
  have hown : s.vm.findClass RX3 = some m.cls := findClass_of_methodNamed B.named
  have hlocks := B.notSynchronized
  have hl := lv_entry ([.ref m0, .int (iZ z1)]) (n := 2) (Nat.le_of_ble_eq_true rfl)
  rw [lg_entry_eq]
  generalize (lg_sl ([.ref m0, .int (iZ z1)]) ++ List.replicate (2 - (lg_sl ([.ref m0, .int (iZ z1)])).length) Slot.unset).toArray = ls at hl ⊢
  have hl : lv_has ls 2 [(0, .ref m0), (1, .int (iZ z1))] := hl
  refine lv_aload_n hx hb dX3_number_0 rfl (lv_at hl 0 rfl) ?_
  refine lv_iload_n hx hb dX3_number_1 rfl (lv_at hl 1 rfl) ?_
  refine kc0 (fun _ q => q) (va_runS (As := [.int (iZ z1)]) (rest := [.ref m0]) ⟨hx, hb, hml, hown, hts⟩ (c_X3_isNo l _ (z1) (by omega)) (va_cwS 1 hts (kg_S mw1021 mw1022 mw47 rfl mw1023) rfl rfl rfl hdS_X3_isNo ⟨Nat.le_of_ble_eq_true rfl, Nat.le_of_ble_eq_true rfl⟩) ⟨fun a U g mk q => q, fun U hU hW => ⟨rfl, hU⟩⟩ rfl rfl hl.1 rfl (lv_room (Nat.le_of_ble_eq_true rfl)) dX3_number_2 ⟨show (0 : Nat) + 0 ≤ 4 from by omega, show (0 : Nat) + 0 ≤ 40 from by omega⟩) ?_
  refine lv_iconst (v := iZ 0) hx hb dX3_number_5 rfl ?_
  refine kc2 (va_runV (As := [.int (iZ (bZ (!inb ((z1)) 0 3))), .int (iZ (bZ false))]) (rest := []) ⟨hx, hb, hml, hown, hts⟩ (c_X3_fails l dC dI dA k m0 (r0) (σ) (th) _ (va_Pl hP) hr hOK (!inb ((z1)) 0 3) false ) (cwV 2 hts (kg_V mw1037 mw1038 mw27 mw47 rfl mw1039) rfl rfl rfl hdV_X3_fails ⟨Nat.le_of_ble_eq_true rfl, Nat.le_of_ble_eq_true rfl⟩) ⟨fun a U g mk q => ⟨q.1, q.2.1, kM_call q.2.2⟩, va_recv hM.1 hP (ci := 6) (q0 := 0) rfl rfl, fun U hU hW => ⟨rfl, hU, kM_kept hM hS hAN hU hW⟩⟩ rfl rfl hl.1 rfl (lv_room (Nat.le_of_ble_eq_true rfl)) dX3_number_6 ⟨show (0 : Nat) + 0 ≤ 4 from by omega, show (0 : Nat) + 0 ≤ 40 from by omega⟩) hS (fun a _ h => kAy_tr hrA hS.1 a h) (fun a h => kAy_tr hrA hS.1 a h) (fun H locs hP9 hz9 hk9 hS => ?_)
  have hP : va_P (dC, dI) vwCl (kY dA m0 r0 σ (ex2 ((!inb ((z1)) 0 3)) false) ++ ([] : va_W)) _ := hP9
  have hD : va_D (kAy m0 r0 s.heap.size) (kY dA m0 r0 σ (ex2 ((!inb ((z1)) 0 3)) false) ++ ([] : va_W)) := by rw [← kap]; exact kYD_A hr hrA
  refine kz_ifb_eq (tgt := 17) hx hb  dX3_number_9 (by decide) (fun c_1 => ?_) (fun c_1 => ?_)
  · have hX : ex2 (!inb z1 0 3) (false) = ex2 (!inb ((z1)) 0 3) false := by first | rfl | simp only [Bool.true_or, Bool.or_true, Bool.false_or, Bool.or_false, Bool.not_true, Bool.not_false]
    have hZ : ex2 (!inb z1 0 3) (false) = 0 := kf_eq hX c_1
    obtain ⟨hA9, hB9⟩ := ex2_z hZ
    simp only [Bool.or_eq_false_iff, Bool.not_eq_false', Bool.not_eq_true', inb, decide_eq_true_eq, decide_eq_false_iff_not, noThing_niff] at hA9
    obtain ⟨p1, hp1, rfl⟩ : ∃ p1 : Nat, p1 < 4 ∧ z1 = (p1 : Int) := ⟨z1.toNat, by omega, by omega⟩
    have o_p1 := kOKr hOK hp1
    have l_p1 := mlen_rng (leap (σ 0 p1)) (σ 1 p1)
    have n_p1 := dnum_rng (y := σ 5 p1) (m := σ 6 p1) (d := σ 7 p1) (by omega) (by omega) (by omega)
    have hP := kY0 hP (kf_e c_1)
    have hD := kD0 hD (kf_e c_1)
    refine va_new (ci := 1) (fs := [.null, .int 0, .int 0, .int 0]) (C := RJ4) (T := TJ4) (N := 4) hx hb hts (fun w h => List.mem_cons_of_mem _ (gF_3_in h)) tyJ4 tyJ4_ok hown (hts _ (List.mem_cons_of_mem _ mw1262)) (hts _ (List.mem_cons_of_mem _ mw72)) (hts _ (List.mem_cons_of_mem _ mw44)) hM.1 hP hD hS kAy_new rfl (fun j hj => by rcases (show j = 0 ∨ j = 1 ∨ j = 2 ∨ j = 3 by omega) with rfl | rfl | rfl | rfl <;> rfl) (show (0 : Nat) + 1 ≤ 4 from by omega) (show (0 : Nat) + 4 ≤ 40 from by omega) dX3_number_17 (fun b9 H hPn hDn hS => ?_)
    have hnb : ∀ i : Nat, i < 17 → b9 ≠ kR m0 r0 i := kfreshY hDn
    have hbs : s.heap.size ≤ b9 := (hDn.2 17 _ rfl).elim (fun ⟨i9, hi9, e9⟩ => absurd e9 (hnb i9 hi9)) id
    have hkb : k 0 ≤ b9 := hAN _ (hDn.2 17 _ rfl)
    have hB := va_Pr hPn
    have hP : va_P (dC, dI) vwCl (kY dA m0 r0 σ (0) ++ ([] : va_W)) _ := va_Pl hPn
    clear hPn hDn
    have hD : va_D (kAy m0 r0 s.heap.size) (kY dA m0 r0 σ (0) ++ ([] : va_W)) := by rw [← kap]; exact kYD_A hr hrA
    refine lv_dup hx hb dX3_number_20 rfl ?_
    have hsz9 := hS.1
    have hyl := kYltR hP
    refine kc2 (va_runI (As := []) (rest := [.ref b9]) ⟨hx, hb, hml, hown, hts⟩ (c_J4_init_da8c8 l dC dI dA k b9 _ hB hkb) (cwI 0 hts (kg_G rfl mw75) rfl rfl rfl (hts _ (List.mem_cons_of_mem _ mw44)) (hts _ (List.mem_cons_of_mem _ mw1263)) (hts _ (List.mem_cons_of_mem _ mw74)) rfl (by decide +kernel) ⟨Nat.le_of_ble_eq_true rfl, Nat.le_of_ble_eq_true rfl⟩) ⟨fun a U g mk q => ⟨q.1, q.2.1, kMJ_call q.2.2⟩, fun U hU hW => ⟨rfl, hU, kMJ_kept hMJ hS hAN hU hW⟩⟩ rfl rfl hl.1 rfl (lv_room (Nat.le_of_ble_eq_true rfl)) dX3_number_21 ⟨show (0 + 1 : Nat) + 1 ≤ 4 from by omega, show (0 + 4 : Nat) + 16 ≤ 40 from by omega⟩) hS (fun a _ h => kAy_A0 hS.1 hbs a h) (fun a h => kAy_A0 hS.1 hbs a h) (fun H1 locs hG hy9 hk9 hS => ?_)
    obtain ⟨v9, hv1, hv2, hB⟩ := hG
    have hvs : s.heap.size ≤ v9 := Nat.le_trans hsz9 hv1
    have hnv : ∀ i : Nat, i < 17 → v9 ≠ kR m0 r0 i := fun i hi z => absurd (hyl i hi) (by rw [← z]; exact Nat.not_lt.mpr hv1)
    have hkv : k 0 ≤ v9 := Nat.le_trans hM.2.1.1 hvs
    have hP := kY_kept0 hP hk9 hnb
    clear hk9 hy9 hyl hsz9 hv1
    generalize H1 = H at hP hS hB ⊢
    have hD : va_D (kAy m0 r0 s.heap.size) (kY dA m0 r0 σ (0) ++ ([] : va_W)) := by rw [← kap]; exact kYD_A hr hrA
    refine va_ldcS hx hb hown (hMJ.2.2.2.2.2.2.2.1) dX3_number_24 ?_
    refine kc2 (va_runV (As := [.ref (k 7)]) (rest := []) ⟨hx, hb, hml, hown, hts⟩ (c_J4_append_15ec4 l dC dI dA k b9 v9 (fun _ => (0 : Int)) 0 0 _ hB (Or.inl rfl) hv2 hkb hkv kG_0 (by decide)) (cwV 1 hts (kg_V mw1264 mw257 mw258 mw44 rfl mw259) rfl rfl rfl hdV_J4_append_15ec4 ⟨Nat.le_of_ble_eq_true rfl, Nat.le_of_ble_eq_true rfl⟩) ⟨fun a U g mk q => ⟨q.1, q.2.1, kMJ_call q.2.2⟩, va_recv hMJ.1.1 hB (ci := 1) (q0 := 0) rfl rfl, fun U hU hW => ⟨rfl, hU, kMJ_kept hMJ hS hAN hU hW⟩⟩ rfl rfl hl.1 rfl (lv_room (Nat.le_of_ble_eq_true rfl)) dX3_number_26 ⟨show (0 + 1 + 1 : Nat) + 0 ≤ 4 from by omega, show (0 + 4 + 16 : Nat) + 0 ≤ 40 from by omega⟩) hS (fun a _ h => kAy_AB hS.1 hbs hvs a h) (fun a h => kAy_AB hS.1 hbs hvs a h) (fun H1 locs hG hy9 hk9 hS => ?_)
    obtain ⟨tm9, htm9, hB⟩ := hG
    have hP := kY_keptB hP hk9 hnb hnv
    clear hk9 hy9
    generalize H1 = H at hP hS hB ⊢
    have hD : va_D (kAy m0 r0 s.heap.size) (kY dA m0 r0 σ (0) ++ ([] : va_W)) := by rw [← kap]; exact kYD_A hr hrA
    refine lv_aload_n hx hb dX3_number_29 rfl (lv_at hl 0 rfl) ?_
    refine va_get (D := (dC, dI)) (ci := 6) (v := .ref (r0 0 4)) (C := RX3) (T := TX3) (N := 6) hx hb hts (fun w h => List.mem_cons_of_mem _ (gF_2_in h)) hown hM.1 hP 0 rfl rfl 3 (by decide) (hts _ (List.mem_cons_of_mem _ mw1010)) (fun _ h9 => h9) rfl dX3_number_30 ?_
    refine lv_iload_n hx hb dX3_number_33 rfl (lv_at hl 1 rfl) ?_
    refine kz_aald (v := r0 3 p1) hx hb hM.1 hP 4 rfl (by omega) (by decide) rfl dX3_number_34 ?_
    refine kc0 (fun _ q => q) (va_runS (As := [.ref (r0 3 p1)]) (rest := [.ref b9]) ⟨hx, hb, hml, hown, hts⟩ (c_X3_numberOf l dC dI dA k _ _ hP (13 + p1) (r0 3 p1) _ (σ 5 p1) (σ 6 p1) (σ 7 p1) (kY_D _ hp1) rfl rfl rfl (by omega) (by omega) (by omega)) (va_cwS 1 hts (kg_S mw1217 mw1218 mw47 rfl mw1219) rfl rfl rfl hdS_X3_numberOf ⟨Nat.le_of_ble_eq_true rfl, Nat.le_of_ble_eq_true rfl⟩) ⟨fun a U g mk q => ⟨q.1, q.2.1, kM_call q.2.2⟩, fun U hU hW => ⟨rfl, hU, kM_kept hM hS hAN hU hW⟩⟩ rfl rfl hl.1 rfl (lv_room (Nat.le_of_ble_eq_true rfl)) dX3_number_35 ⟨show (0 + 1 + 1 : Nat) + 0 ≤ 4 from by omega, show (0 + 4 + 16 : Nat) + 0 ≤ 40 from by omega⟩) ?_
    have hz9 : (dnum ((σ 5 p1)) ((σ 6 p1)) ((σ 7 p1))).natAbs < 10000000000000 := dnum_13 hOK hp1
    refine kc2 (va_runV (As := [.long (lZ (dnum ((σ 5 p1)) ((σ 6 p1)) ((σ 7 p1))))]) (rest := []) ⟨hx, hb, hml, hown, hts⟩ (c_J4_append_f7089 l dC dI dA k b9 v9 (fun _ => (0 : Int)) tm9 _ hB htm9 hv2 hkb hkv kG_0 (dnum ((σ 5 p1)) ((σ 6 p1)) ((σ 7 p1))) hz9) (cwV 1 hts (kg_V mw1265 mw1266 mw1267 mw44 rfl mw1268) rfl rfl rfl hdV_J4_append_f7089 ⟨Nat.le_of_ble_eq_true rfl, Nat.le_of_ble_eq_true rfl⟩) ⟨fun a U g mk q => ⟨q.1, q.2.1, kMJ_call q.2.2⟩, va_recv hMJ.1.1 hB (ci := 1) (q0 := 0) rfl rfl, fun U hU hW => ⟨rfl, hU, kMJ_kept hMJ hS hAN hU hW⟩⟩ rfl rfl hl.1 rfl (lv_room (Nat.le_of_ble_eq_true rfl)) dX3_number_38 ⟨show (0 + 1 + 1 : Nat) + 0 ≤ 4 from by omega, show (0 + 4 + 16 : Nat) + 0 ≤ 40 from by omega⟩) hS (fun a _ h => kAy_AB hS.1 hbs hvs a h) (fun a h => kAy_AB hS.1 hbs hvs a h) (fun H1 locs hG hy9 hk9 hS => ?_)
    obtain ⟨g9, hg9, ht9, tm9, htm9, hB⟩ := hG
    have hP := kY_keptB hP hk9 hnb hnv
    clear hk9 hy9
    generalize H1 = H at hP hS hB ⊢
    have hD : va_D (kAy m0 r0 s.heap.size) (kY dA m0 r0 σ (0) ++ ([] : va_W)) := by rw [← kap]; exact kYD_A hr hrA
    refine kcS (va_runV (As := []) (rest := []) ⟨hx, hb, hml, hown, hts⟩ (c_J4_toString_0e30d l dC dI dA k b9 v9 g9 tm9 (TL (dnum ((σ 5 p1)) ((σ 6 p1)) ((σ 7 p1)))) _ hB htm9 hv2 hkb hkv hg9 (by have := TL_rng hz9; omega)) (cwV 0 hts (kg_V mw1292 mw389 mw390 mw44 rfl mw391) rfl rfl rfl hdV_J4_toString_0e30d ⟨Nat.le_of_ble_eq_true rfl, Nat.le_of_ble_eq_true rfl⟩) ⟨fun a U g mk q => ⟨q.1, q.2.1, kMJ_call q.2.2⟩, va_recv hMJ.1.1 hB (ci := 1) (q0 := 0) rfl rfl, fun U hU hW => ⟨rfl, hU, kMJ_kept hMJ hS hAN hU hW⟩⟩ rfl rfl hl.1 rfl (lv_room (Nat.le_of_ble_eq_true rfl)) dX3_number_41 ⟨show (0 + 1 + 1 : Nat) + 2 ≤ 4 from by omega, show (0 + 4 + 16 : Nat) + 20 ≤ 40 from by omega⟩) hS (fun a _ h => kAy_AB hS.1 hbs hvs a h) (fun a h => kAy_AB hS.1 hbs hvs a h) (fun x9 w9 H1 locs hq1 hq2 hq3 hP9 hy9 hk9 hS => ?_)
    have hT := va_Pr hP9
    have hP := kY_keptB hP hk9 hnb hnv
    have htx : ∀ j, j < TL (dnum ((σ 5 p1)) ((σ 6 p1)) ((σ 7 p1))) → cp g9 (fun _ => 0) (TL (dnum ((σ 5 p1)) ((σ 6 p1)) ((σ 7 p1)))) j = TX (dnum ((σ 5 p1)) ((σ 6 p1)) ((σ 7 p1))) j := fun j hj => by rw [cp_in hj]; exact ht9 j hj
    clear hk9 hy9 hP9 hB hq1 hq2 hq3
    generalize H1 = H at hP hS hT ⊢
    have hD : va_D (kAy m0 r0 s.heap.size) (kY dA m0 r0 σ (0) ++ ([] : va_W)) := by rw [← kap]; exact kYD_A hr hrA
    refine W.widen (k := 4) (n := 40) (show (0 + 1 + 1 + 2 : Nat) ≤ 4 from by omega) (show (0 + 4 + 16 + 20 : Nat) ≤ 40 from by omega) ?_
    exact W.aret (rt := .object "java/lang/String") hx hb hr9 (Or.inl ⟨_, rfl⟩) (Or.inr ⟨_, rfl⟩) (fun t ht hW => ⟨⟨x9, rfl, ⟨kYcast (by rw [ht]; exact va_Pl hP) rfl (show (0) = ex2 (!inb ((p1 : Nat) : Int) 0 3) (false) from hZ.symm), fun _ => by rw [ht]; exact kTX_e (rfl) ⟨w9, _, (TL_rng hz9).2, htx, hT⟩⟩⟩, hS.F ht⟩) hS.2.2 dX3_number_44 hlocks
  · have hX : ex2 (!inb z1 0 3) (false) = ex2 (!inb ((z1)) 0 3) false := by first | rfl | simp only [Bool.true_or, Bool.or_true, Bool.false_or, Bool.or_false, Bool.not_true, Bool.not_false]
    have hN : ¬ ex2 (!inb z1 0 3) (false) = 0 := kf_ne hX c_1
    refine va_ldcS hx hb hown (hMJ.2.2.2.2.2.2.2.1) dX3_number_12 ?_
    refine lv_goto (tgt := 44) hx hb dX3_number_14 (by decide) ?_
    refine W.widen (k := 4) (n := 40) (show (0 : Nat) ≤ 4 from by omega) (show (0 : Nat) ≤ 40 from by omega) ?_
    exact W.aret (rt := .object "java/lang/String") hx hb hr9 (Or.inl ⟨_, rfl⟩) (Or.inr ⟨_, rfl⟩) (fun t ht hW => ⟨⟨k 7, rfl, ⟨kYcast (by rw [ht]; exact va_Pl hP) rfl (show (ex2 ((!inb ((z1)) 0 3)) false) = ex2 (!inb z1 0 3) (false) from hX.symm), fun z => absurd z hN⟩⟩, hS.F ht⟩) hS.2.2 dX3_number_44 hlocks

abbrev ww_X3_leafTo : List Cond := .code yX3_leafTo cX3_leafTo 5 (some (.object "java/lang/String")) :: gT
set_option maxHeartbeats 4000000 in
set_option maxRecDepth 100000 in
theorem c_X3_leafTo (l : Launch) (dC : Nat → ClassId) (dI : Nat → Nat → Nat) (dA : Nat → ClassId) (k : Nat → Nat) (m0 : Nat) (r0 : Nat → Nat → Nat) (σ : Nat → Nat → Int) (th : Int) (H0 : Heap) (hP : va_P (dC, dI) vwCl (kY dA m0 r0 σ th) H0) (hr : kRI m0 r0 k) (hOK : kOK σ) (z1 : Int) (z2 : Int) (uu : Int) (bb : Bool) (rz1 : -2147483648 ≤ z1 ∧ z1 < 2147483648) (rz2 : -2147483648 ≤ z2 ∧ z2 < 2147483648) (ruu : -2147483648 ≤ uu ∧ uu < 2147483648) : Met l yX3_leafTo ww_X3_leafTo ({ frames := 8, cells := 4, slots := 40, locals := 214 }) (va_Pc [.ref m0, .int (iZ z1), .int (iZ z2), .int (iZ uu), .int (iZ (bZ (bb)))] (fun U => U.heap = H0 ∧ kMJ dC dI dA k U)) (kQ2r (fun x H => va_P (dC, dI) vwCl (kY dA m0 r0 σ (ex2 (!inb z1 0 3 || !inb z2 0 3) (!inb uu 0 4))) H ∧ (ex2 (!inb z1 0 3 || !inb z2 0 3) (!inb uu 0 4) = 0 → kTX dC dI dA (tq (cnt (σ 0 z2.toNat) (σ 1 z2.toNat) - cnt (σ 0 z1.toNat) (σ 1 z1.toNat)) (usize uu)) x H)) (kAy m0 r0 H0.size)) 4 40 (kAy m0 r0 H0.size) := by
  refine Met.ofW (cc := cX3_leafTo) (maxL := 5) (ret := (some (.object "java/lang/String"))) (by decide) rfl ?_
  intro p e s m args below meth c s₁ B hml hv
  obtain ⟨rfl, hH, hMJ⟩ := hv
  subst hH
  have hM := hMJ.1
  have hr0 := hr
  have hAN : ∀ a, kAy m0 r0 s.heap.size a → k 0 ≤ a := fun a h => kAy_N hr0 hM.2.1.1 a h
  have hrA : ∀ i : Nat, i < 17 → kAy m0 r0 s.heap.size (kR m0 r0 i) := fun i hi => Or.inl ⟨i, hi, rfl⟩
  have hD : va_D (kAy m0 r0 s.heap.size) (kY dA m0 r0 σ (th) ++ ([] : va_W)) := by rw [← kap]; exact kYD_A hr hrA
  have hP : va_P (dC, dI) vwCl (kY dA m0 r0 σ (th) ++ ([] : va_W)) s.heap := hP
  have hS : va_S (kAy m0 r0 s.heap.size) s.heap s.heap [] := va_S.rf
  have hx := B.exec
  have hb := B.bytes
  have hr9 := B.returns
  have hts := atoms_spec (ws := ww_X3_leafTo) B.pre
  have hown : s.vm.findClass RX3 = some m.cls := findClass_of_methodNamed B.named
  have hlocks := B.notSynchronized
  have hl := lv_entry ([.ref m0, .int (iZ z1), .int (iZ z2), .int (iZ uu), .int (iZ (bZ (bb)))]) (n := 5) (Nat.le_of_ble_eq_true rfl)
  rw [lg_entry_eq]
  generalize (lg_sl ([.ref m0, .int (iZ z1), .int (iZ z2), .int (iZ uu), .int (iZ (bZ (bb)))]) ++ List.replicate (5 - (lg_sl ([.ref m0, .int (iZ z1), .int (iZ z2), .int (iZ uu), .int (iZ (bZ (bb)))])).length) Slot.unset).toArray = ls at hl ⊢
  have hl : lv_has ls 5 [(0, .ref m0), (1, .int (iZ z1)), (2, .int (iZ z2)), (3, .int (iZ uu)), (4, .int (iZ (bZ (bb))))] := hl
  refine lv_aload_n hx hb dX3_leafTo_0 rfl (lv_at hl 0 rfl) ?_
  refine lv_iload_n hx hb dX3_leafTo_1 rfl (lv_at hl 1 rfl) ?_
  refine kc0 (fun _ q => q) (va_runS (As := [.int (iZ z1)]) (rest := [.ref m0]) ⟨hx, hb, hml, hown, hts⟩ (c_X3_isNo l _ (z1) (by omega)) (va_cwS 1 hts (kg_S mw1021 mw1022 mw47 rfl mw1023) rfl rfl rfl hdS_X3_isNo ⟨Nat.le_of_ble_eq_true rfl, Nat.le_of_ble_eq_true rfl⟩) ⟨fun a U g mk q => q, fun U hU hW => ⟨rfl, hU⟩⟩ rfl rfl hl.1 rfl (lv_room (Nat.le_of_ble_eq_true rfl)) dX3_leafTo_2 ⟨show (0 : Nat) + 0 ≤ 4 from by omega, show (0 : Nat) + 0 ≤ 40 from by omega⟩) ?_
  refine kz_ifb_ne (tgt := 15) hx hb  dX3_leafTo_5 (by decide) (fun c_1 => ?_) (fun c_1 => ?_)
  · refine lv_iconst (v := iZ 1) hx hb dX3_leafTo_15 rfl ?_
    refine lv_goto (tgt := 20) hx hb dX3_leafTo_16 (by decide) ?_
    refine lv_iload_n hx hb dX3_leafTo_20 rfl (lv_at hl 3 rfl) ?_
    refine kz_i2l hx hb (by omega) dX3_leafTo_21 ?_
    refine lv_lconst (v := lZ 0) hx hb dX3_leafTo_22 rfl ?_
    refine lv_ldc2 (v := lZ 4) hx hb hown (hts _ (List.mem_cons_of_mem _ mw1090)) dX3_leafTo_23 ?_
    refine kc0 (fun _ q => q) (va_runS (As := [.long (lZ (uu)), .long (lZ (0)), .long (lZ (4))]) (rest := [.int (iZ 1), .ref m0]) ⟨hx, hb, hml, hown, hts⟩ (c_X3_isIn l _ (uu) (0) (4) (by omega) (by omega) (by omega)) (va_cwS 3 hts (kg_S mw1025 mw1026 mw47 rfl mw1027) rfl rfl rfl hdS_X3_isIn ⟨Nat.le_of_ble_eq_true rfl, Nat.le_of_ble_eq_true rfl⟩) ⟨fun a U g mk q => q, fun U hU hW => ⟨rfl, hU⟩⟩ rfl rfl hl.1 rfl (lv_room (Nat.le_of_ble_eq_true rfl)) dX3_leafTo_26 ⟨show (0 : Nat) + 0 ≤ 4 from by omega, show (0 : Nat) + 0 ≤ 40 from by omega⟩) ?_
    refine kz_ifb_ne (tgt := 36) hx hb  dX3_leafTo_29 (by decide) (fun c_2 => ?_) (fun c_2 => ?_)
    · refine lv_iconst (v := iZ 0) hx hb dX3_leafTo_36 rfl ?_
      refine kc2 (va_runV (As := [.int (iZ (bZ true)), .int (iZ (bZ false))]) (rest := []) ⟨hx, hb, hml, hown, hts⟩ (c_X3_fails l dC dI dA k m0 (r0) (σ) (th) _ (va_Pl hP) hr hOK true false ) (cwV 2 hts (kg_V mw1037 mw1038 mw27 mw47 rfl mw1039) rfl rfl rfl hdV_X3_fails ⟨Nat.le_of_ble_eq_true rfl, Nat.le_of_ble_eq_true rfl⟩) ⟨fun a U g mk q => ⟨q.1, q.2.1, kM_call q.2.2⟩, va_recv hM.1 hP (ci := 6) (q0 := 0) rfl rfl, fun U hU hW => ⟨rfl, hU, kM_kept hM hS hAN hU hW⟩⟩ rfl rfl hl.1 rfl (lv_room (Nat.le_of_ble_eq_true rfl)) dX3_leafTo_37 ⟨show (0 : Nat) + 0 ≤ 4 from by omega, show (0 : Nat) + 0 ≤ 40 from by omega⟩) hS (fun a _ h => kAy_tr hrA hS.1 a h) (fun a h => kAy_tr hrA hS.1 a h) (fun H locs hP9 hz9 hk9 hS => ?_)
      have hP : va_P (dC, dI) vwCl (kY dA m0 r0 σ (ex2 true false) ++ ([] : va_W)) _ := hP9
      have hD : va_D (kAy m0 r0 s.heap.size) (kY dA m0 r0 σ (ex2 true false) ++ ([] : va_W)) := by rw [← kap]; exact kYD_A hr hrA
      refine kz_ifb_eq (tgt := 48) hx hb  dX3_leafTo_40 (by decide) (fun c_3 => absurd (kf_f c_3).1 (by decide)) (fun c_3 => ?_)
      have hX : ex2 (!inb z1 0 3 || !inb z2 0 3) (!inb uu 0 4) = ex2 true false := by first | rfl | simp only [c_1, c_2, Bool.true_or, Bool.or_true, Bool.false_or, Bool.or_false, Bool.not_true, Bool.not_false]
      have hN : ¬ ex2 (!inb z1 0 3 || !inb z2 0 3) (!inb uu 0 4) = 0 := kf_ne hX c_3
      refine va_ldcS hx hb hown (hMJ.2.2.2.2.2.2.2.1) dX3_leafTo_43 ?_
      refine lv_goto (tgt := 55) hx hb dX3_leafTo_45 (by decide) ?_
      refine W.widen (k := 4) (n := 40) (show (0 : Nat) ≤ 4 from by omega) (show (0 : Nat) ≤ 40 from by omega) ?_
      exact W.aret (rt := .object "java/lang/String") hx hb hr9 (Or.inl ⟨_, rfl⟩) (Or.inr ⟨_, rfl⟩) (fun t ht hW => ⟨⟨k 7, rfl, ⟨kYcast (by rw [ht]; exact va_Pl hP) rfl (show (ex2 true false) = ex2 (!inb z1 0 3 || !inb z2 0 3) (!inb uu 0 4) from hX.symm), fun z => absurd z hN⟩⟩, hS.F ht⟩) hS.2.2 dX3_leafTo_55 hlocks
    · refine lv_iconst (v := iZ 1) hx hb dX3_leafTo_32 rfl ?_
      refine lv_goto (tgt := 37) hx hb dX3_leafTo_33 (by decide) ?_
      refine kc2 (va_runV (As := [.int (iZ (bZ true)), .int (iZ (bZ true))]) (rest := []) ⟨hx, hb, hml, hown, hts⟩ (c_X3_fails l dC dI dA k m0 (r0) (σ) (th) _ (va_Pl hP) hr hOK true true ) (cwV 2 hts (kg_V mw1037 mw1038 mw27 mw47 rfl mw1039) rfl rfl rfl hdV_X3_fails ⟨Nat.le_of_ble_eq_true rfl, Nat.le_of_ble_eq_true rfl⟩) ⟨fun a U g mk q => ⟨q.1, q.2.1, kM_call q.2.2⟩, va_recv hM.1 hP (ci := 6) (q0 := 0) rfl rfl, fun U hU hW => ⟨rfl, hU, kM_kept hM hS hAN hU hW⟩⟩ rfl rfl hl.1 rfl (lv_room (Nat.le_of_ble_eq_true rfl)) dX3_leafTo_37 ⟨show (0 : Nat) + 0 ≤ 4 from by omega, show (0 : Nat) + 0 ≤ 40 from by omega⟩) hS (fun a _ h => kAy_tr hrA hS.1 a h) (fun a h => kAy_tr hrA hS.1 a h) (fun H locs hP9 hz9 hk9 hS => ?_)
      have hP : va_P (dC, dI) vwCl (kY dA m0 r0 σ (ex2 true true) ++ ([] : va_W)) _ := hP9
      have hD : va_D (kAy m0 r0 s.heap.size) (kY dA m0 r0 σ (ex2 true true) ++ ([] : va_W)) := by rw [← kap]; exact kYD_A hr hrA
      refine kz_ifb_eq (tgt := 48) hx hb  dX3_leafTo_40 (by decide) (fun c_4 => absurd (kf_f c_4).1 (by decide)) (fun c_4 => ?_)
      have hX : ex2 (!inb z1 0 3 || !inb z2 0 3) (!inb uu 0 4) = ex2 true true := by first | rfl | simp only [c_1, c_2, Bool.true_or, Bool.or_true, Bool.false_or, Bool.or_false, Bool.not_true, Bool.not_false]
      have hN : ¬ ex2 (!inb z1 0 3 || !inb z2 0 3) (!inb uu 0 4) = 0 := kf_ne hX c_4
      refine va_ldcS hx hb hown (hMJ.2.2.2.2.2.2.2.1) dX3_leafTo_43 ?_
      refine lv_goto (tgt := 55) hx hb dX3_leafTo_45 (by decide) ?_
      refine W.widen (k := 4) (n := 40) (show (0 : Nat) ≤ 4 from by omega) (show (0 : Nat) ≤ 40 from by omega) ?_
      exact W.aret (rt := .object "java/lang/String") hx hb hr9 (Or.inl ⟨_, rfl⟩) (Or.inr ⟨_, rfl⟩) (fun t ht hW => ⟨⟨k 7, rfl, ⟨kYcast (by rw [ht]; exact va_Pl hP) rfl (show (ex2 true true) = ex2 (!inb z1 0 3 || !inb z2 0 3) (!inb uu 0 4) from hX.symm), fun z => absurd z hN⟩⟩, hS.F ht⟩) hS.2.2 dX3_leafTo_55 hlocks
  · refine lv_iload_n hx hb dX3_leafTo_8 rfl (lv_at hl 2 rfl) ?_
    refine kc0 (fun _ q => q) (va_runS (As := [.int (iZ z2)]) (rest := [.ref m0]) ⟨hx, hb, hml, hown, hts⟩ (c_X3_isNo l _ (z2) (by omega)) (va_cwS 1 hts (kg_S mw1021 mw1022 mw47 rfl mw1023) rfl rfl rfl hdS_X3_isNo ⟨Nat.le_of_ble_eq_true rfl, Nat.le_of_ble_eq_true rfl⟩) ⟨fun a U g mk q => q, fun U hU hW => ⟨rfl, hU⟩⟩ rfl rfl hl.1 rfl (lv_room (Nat.le_of_ble_eq_true rfl)) dX3_leafTo_9 ⟨show (0 : Nat) + 0 ≤ 4 from by omega, show (0 : Nat) + 0 ≤ 40 from by omega⟩) ?_
    refine kz_ifb_eq (tgt := 19) hx hb  dX3_leafTo_12 (by decide) (fun c_5 => ?_) (fun c_5 => ?_)
    · refine lv_iconst (v := iZ 0) hx hb dX3_leafTo_19 rfl ?_
      refine lv_iload_n hx hb dX3_leafTo_20 rfl (lv_at hl 3 rfl) ?_
      refine kz_i2l hx hb (by omega) dX3_leafTo_21 ?_
      refine lv_lconst (v := lZ 0) hx hb dX3_leafTo_22 rfl ?_
      refine lv_ldc2 (v := lZ 4) hx hb hown (hts _ (List.mem_cons_of_mem _ mw1090)) dX3_leafTo_23 ?_
      refine kc0 (fun _ q => q) (va_runS (As := [.long (lZ (uu)), .long (lZ (0)), .long (lZ (4))]) (rest := [.int (iZ 0), .ref m0]) ⟨hx, hb, hml, hown, hts⟩ (c_X3_isIn l _ (uu) (0) (4) (by omega) (by omega) (by omega)) (va_cwS 3 hts (kg_S mw1025 mw1026 mw47 rfl mw1027) rfl rfl rfl hdS_X3_isIn ⟨Nat.le_of_ble_eq_true rfl, Nat.le_of_ble_eq_true rfl⟩) ⟨fun a U g mk q => q, fun U hU hW => ⟨rfl, hU⟩⟩ rfl rfl hl.1 rfl (lv_room (Nat.le_of_ble_eq_true rfl)) dX3_leafTo_26 ⟨show (0 : Nat) + 0 ≤ 4 from by omega, show (0 : Nat) + 0 ≤ 40 from by omega⟩) ?_
      refine kz_ifb_ne (tgt := 36) hx hb  dX3_leafTo_29 (by decide) (fun c_6 => ?_) (fun c_6 => ?_)
      · refine lv_iconst (v := iZ 0) hx hb dX3_leafTo_36 rfl ?_
        refine kc2 (va_runV (As := [.int (iZ (bZ false)), .int (iZ (bZ false))]) (rest := []) ⟨hx, hb, hml, hown, hts⟩ (c_X3_fails l dC dI dA k m0 (r0) (σ) (th) _ (va_Pl hP) hr hOK false false ) (cwV 2 hts (kg_V mw1037 mw1038 mw27 mw47 rfl mw1039) rfl rfl rfl hdV_X3_fails ⟨Nat.le_of_ble_eq_true rfl, Nat.le_of_ble_eq_true rfl⟩) ⟨fun a U g mk q => ⟨q.1, q.2.1, kM_call q.2.2⟩, va_recv hM.1 hP (ci := 6) (q0 := 0) rfl rfl, fun U hU hW => ⟨rfl, hU, kM_kept hM hS hAN hU hW⟩⟩ rfl rfl hl.1 rfl (lv_room (Nat.le_of_ble_eq_true rfl)) dX3_leafTo_37 ⟨show (0 : Nat) + 0 ≤ 4 from by omega, show (0 : Nat) + 0 ≤ 40 from by omega⟩) hS (fun a _ h => kAy_tr hrA hS.1 a h) (fun a h => kAy_tr hrA hS.1 a h) (fun H locs hP9 hz9 hk9 hS => ?_)
        have hP : va_P (dC, dI) vwCl (kY dA m0 r0 σ (ex2 false false) ++ ([] : va_W)) _ := hP9
        have hD : va_D (kAy m0 r0 s.heap.size) (kY dA m0 r0 σ (ex2 false false) ++ ([] : va_W)) := by rw [← kap]; exact kYD_A hr hrA
        refine kz_ifb_eq (tgt := 48) hx hb  dX3_leafTo_40 (by decide) (fun c_7 => ?_) (fun c_7 => absurd (show ex2 false false = 0 from rfl) (kf_t c_7))
        have hX : ex2 (!inb z1 0 3 || !inb z2 0 3) (!inb uu 0 4) = ex2 false false := by first | rfl | simp only [c_1, c_5, c_6, Bool.true_or, Bool.or_true, Bool.false_or, Bool.or_false, Bool.not_true, Bool.not_false]
        have hZ : ex2 (!inb z1 0 3 || !inb z2 0 3) (!inb uu 0 4) = 0 := kf_eq hX c_7
        obtain ⟨hA9, hB9⟩ := ex2_z hZ
        simp only [Bool.or_eq_false_iff, Bool.not_eq_false', Bool.not_eq_true', inb, decide_eq_true_eq, decide_eq_false_iff_not, noThing_niff] at hA9
        simp only [Bool.or_eq_false_iff, Bool.not_eq_false', Bool.not_eq_true', inb, decide_eq_true_eq, decide_eq_false_iff_not, noThing_niff] at hB9
        obtain ⟨p1, hp1, rfl⟩ : ∃ p1 : Nat, p1 < 4 ∧ z1 = (p1 : Int) := ⟨z1.toNat, by omega, by omega⟩
        have o_p1 := kOKr hOK hp1
        have l_p1 := mlen_rng (leap (σ 0 p1)) (σ 1 p1)
        have n_p1 := dnum_rng (y := σ 5 p1) (m := σ 6 p1) (d := σ 7 p1) (by omega) (by omega) (by omega)
        obtain ⟨p2, hp2, rfl⟩ : ∃ p2 : Nat, p2 < 4 ∧ z2 = (p2 : Int) := ⟨z2.toNat, by omega, by omega⟩
        have o_p2 := kOKr hOK hp2
        have l_p2 := mlen_rng (leap (σ 0 p2)) (σ 1 p2)
        have n_p2 := dnum_rng (y := σ 5 p2) (m := σ 6 p2) (d := σ 7 p2) (by omega) (by omega) (by omega)
        have hP := kY0 hP (kf_e c_7)
        have hD := kD0 hD (kf_e c_7)
        refine lv_aload_n hx hb dX3_leafTo_48 rfl (lv_at hl 0 rfl) ?_
        refine lv_iload_n hx hb dX3_leafTo_49 rfl (lv_at hl 1 rfl) ?_
        refine lv_iload_n hx hb dX3_leafTo_50 rfl (lv_at hl 2 rfl) ?_
        refine lv_iload_n hx hb dX3_leafTo_51 rfl (lv_at hl 3 rfl) ?_
        refine kcYS (va_runV (As := [.int (iZ ((p1 : Nat) : Int)), .int (iZ ((p2 : Nat) : Int)), .int (iZ uu)]) (rest := []) ⟨hx, hb, hml, hown, hts⟩ (c_X3_leafToNow l dC dI dA k m0 r0 σ (0) _ (va_Pl hP) hr hOK p1 p2 (uu) hp1 hp2 (by omega)) (cwV 3 hts (kg_V mw1318 mw1319 mw36 mw47 rfl mw1320) rfl rfl rfl hdV_X3_leafToNow ⟨Nat.le_of_ble_eq_true rfl, Nat.le_of_ble_eq_true rfl⟩) ⟨fun a U g mk q => ⟨q.1, q.2.1, kMJ_call q.2.2⟩, va_recv hM.1 hP (ci := 6) (q0 := 0) rfl rfl, fun U hU hW => ⟨rfl, hU, kMJ_kept hMJ hS hAN hU hW⟩⟩ rfl rfl hl.1 rfl (lv_room (Nat.le_of_ble_eq_true rfl)) dX3_leafTo_52 ⟨show (0 : Nat) + 4 ≤ 4 from by omega, show (0 : Nat) + 40 ≤ 40 from by omega⟩) hS (fun a _ h => kAy_tr hrA hS.1 a h) (fun a h => kAy_tr hrA hS.1 a h) (fun x_8 w_x_8 g_x_8 H locs ht_x_8 hP9 hT hS => ?_)
        have hP : va_P (dC, dI) vwCl (kY dA m0 r0 σ (0) ++ ([] : va_W)) _ := hP9
        have hD : va_D (kAy m0 r0 s.heap.size) (kY dA m0 r0 σ (0) ++ ([] : va_W)) := by rw [← kap]; exact kYD_A hr hrA
        have hz_x_8 : (wyz σ p1 p2 (uu)).natAbs < 10000000000000 := wyz_13 hOK hp1 hp2 _
        refine W.widen (k := 4) (n := 40) (show (0 + 4 : Nat) ≤ 4 from by omega) (show (0 + 40 : Nat) ≤ 40 from by omega) ?_
        exact W.aret (rt := .object "java/lang/String") hx hb hr9 (Or.inl ⟨_, rfl⟩) (Or.inr ⟨_, rfl⟩) (fun t ht hW => ⟨⟨x_8, rfl, ⟨kYcast (by rw [ht]; exact va_Pl hP) rfl (show (0) = ex2 (!inb ((p1 : Nat) : Int) 0 3 || !inb ((p2 : Nat) : Int) 0 3) (!inb uu 0 4) from hZ.symm), fun _ => by rw [ht]; exact kTX_e (rfl) ⟨w_x_8, _, (TL_rng hz_x_8).2, ht_x_8, hT⟩⟩⟩, hS.F ht⟩) hS.2.2 dX3_leafTo_55 hlocks
      · refine lv_iconst (v := iZ 1) hx hb dX3_leafTo_32 rfl ?_
        refine lv_goto (tgt := 37) hx hb dX3_leafTo_33 (by decide) ?_
        refine kc2 (va_runV (As := [.int (iZ (bZ false)), .int (iZ (bZ true))]) (rest := []) ⟨hx, hb, hml, hown, hts⟩ (c_X3_fails l dC dI dA k m0 (r0) (σ) (th) _ (va_Pl hP) hr hOK false true ) (cwV 2 hts (kg_V mw1037 mw1038 mw27 mw47 rfl mw1039) rfl rfl rfl hdV_X3_fails ⟨Nat.le_of_ble_eq_true rfl, Nat.le_of_ble_eq_true rfl⟩) ⟨fun a U g mk q => ⟨q.1, q.2.1, kM_call q.2.2⟩, va_recv hM.1 hP (ci := 6) (q0 := 0) rfl rfl, fun U hU hW => ⟨rfl, hU, kM_kept hM hS hAN hU hW⟩⟩ rfl rfl hl.1 rfl (lv_room (Nat.le_of_ble_eq_true rfl)) dX3_leafTo_37 ⟨show (0 : Nat) + 0 ≤ 4 from by omega, show (0 : Nat) + 0 ≤ 40 from by omega⟩) hS (fun a _ h => kAy_tr hrA hS.1 a h) (fun a h => kAy_tr hrA hS.1 a h) (fun H locs hP9 hz9 hk9 hS => ?_)
        have hP : va_P (dC, dI) vwCl (kY dA m0 r0 σ (ex2 false true) ++ ([] : va_W)) _ := hP9
        have hD : va_D (kAy m0 r0 s.heap.size) (kY dA m0 r0 σ (ex2 false true) ++ ([] : va_W)) := by rw [← kap]; exact kYD_A hr hrA
        refine kz_ifb_eq (tgt := 48) hx hb  dX3_leafTo_40 (by decide) (fun c_9 => absurd (kf_f c_9).2 (by decide)) (fun c_9 => ?_)
        have hX : ex2 (!inb z1 0 3 || !inb z2 0 3) (!inb uu 0 4) = ex2 false true := by first | rfl | simp only [c_1, c_5, c_6, Bool.true_or, Bool.or_true, Bool.false_or, Bool.or_false, Bool.not_true, Bool.not_false]
        have hN : ¬ ex2 (!inb z1 0 3 || !inb z2 0 3) (!inb uu 0 4) = 0 := kf_ne hX c_9
        refine va_ldcS hx hb hown (hMJ.2.2.2.2.2.2.2.1) dX3_leafTo_43 ?_
        refine lv_goto (tgt := 55) hx hb dX3_leafTo_45 (by decide) ?_
        refine W.widen (k := 4) (n := 40) (show (0 : Nat) ≤ 4 from by omega) (show (0 : Nat) ≤ 40 from by omega) ?_
        exact W.aret (rt := .object "java/lang/String") hx hb hr9 (Or.inl ⟨_, rfl⟩) (Or.inr ⟨_, rfl⟩) (fun t ht hW => ⟨⟨k 7, rfl, ⟨kYcast (by rw [ht]; exact va_Pl hP) rfl (show (ex2 false true) = ex2 (!inb z1 0 3 || !inb z2 0 3) (!inb uu 0 4) from hX.symm), fun z => absurd z hN⟩⟩, hS.F ht⟩) hS.2.2 dX3_leafTo_55 hlocks
    · refine lv_iconst (v := iZ 1) hx hb dX3_leafTo_15 rfl ?_
      refine lv_goto (tgt := 20) hx hb dX3_leafTo_16 (by decide) ?_
      refine lv_iload_n hx hb dX3_leafTo_20 rfl (lv_at hl 3 rfl) ?_
      refine kz_i2l hx hb (by omega) dX3_leafTo_21 ?_
      refine lv_lconst (v := lZ 0) hx hb dX3_leafTo_22 rfl ?_
      refine lv_ldc2 (v := lZ 4) hx hb hown (hts _ (List.mem_cons_of_mem _ mw1090)) dX3_leafTo_23 ?_
      refine kc0 (fun _ q => q) (va_runS (As := [.long (lZ (uu)), .long (lZ (0)), .long (lZ (4))]) (rest := [.int (iZ 1), .ref m0]) ⟨hx, hb, hml, hown, hts⟩ (c_X3_isIn l _ (uu) (0) (4) (by omega) (by omega) (by omega)) (va_cwS 3 hts (kg_S mw1025 mw1026 mw47 rfl mw1027) rfl rfl rfl hdS_X3_isIn ⟨Nat.le_of_ble_eq_true rfl, Nat.le_of_ble_eq_true rfl⟩) ⟨fun a U g mk q => q, fun U hU hW => ⟨rfl, hU⟩⟩ rfl rfl hl.1 rfl (lv_room (Nat.le_of_ble_eq_true rfl)) dX3_leafTo_26 ⟨show (0 : Nat) + 0 ≤ 4 from by omega, show (0 : Nat) + 0 ≤ 40 from by omega⟩) ?_
      refine kz_ifb_ne (tgt := 36) hx hb  dX3_leafTo_29 (by decide) (fun c_10 => ?_) (fun c_10 => ?_)
      · refine lv_iconst (v := iZ 0) hx hb dX3_leafTo_36 rfl ?_
        refine kc2 (va_runV (As := [.int (iZ (bZ true)), .int (iZ (bZ false))]) (rest := []) ⟨hx, hb, hml, hown, hts⟩ (c_X3_fails l dC dI dA k m0 (r0) (σ) (th) _ (va_Pl hP) hr hOK true false ) (cwV 2 hts (kg_V mw1037 mw1038 mw27 mw47 rfl mw1039) rfl rfl rfl hdV_X3_fails ⟨Nat.le_of_ble_eq_true rfl, Nat.le_of_ble_eq_true rfl⟩) ⟨fun a U g mk q => ⟨q.1, q.2.1, kM_call q.2.2⟩, va_recv hM.1 hP (ci := 6) (q0 := 0) rfl rfl, fun U hU hW => ⟨rfl, hU, kM_kept hM hS hAN hU hW⟩⟩ rfl rfl hl.1 rfl (lv_room (Nat.le_of_ble_eq_true rfl)) dX3_leafTo_37 ⟨show (0 : Nat) + 0 ≤ 4 from by omega, show (0 : Nat) + 0 ≤ 40 from by omega⟩) hS (fun a _ h => kAy_tr hrA hS.1 a h) (fun a h => kAy_tr hrA hS.1 a h) (fun H locs hP9 hz9 hk9 hS => ?_)
        have hP : va_P (dC, dI) vwCl (kY dA m0 r0 σ (ex2 true false) ++ ([] : va_W)) _ := hP9
        have hD : va_D (kAy m0 r0 s.heap.size) (kY dA m0 r0 σ (ex2 true false) ++ ([] : va_W)) := by rw [← kap]; exact kYD_A hr hrA
        refine kz_ifb_eq (tgt := 48) hx hb  dX3_leafTo_40 (by decide) (fun c_11 => absurd (kf_f c_11).1 (by decide)) (fun c_11 => ?_)
        have hX : ex2 (!inb z1 0 3 || !inb z2 0 3) (!inb uu 0 4) = ex2 true false := by first | rfl | simp only [c_1, c_5, c_10, Bool.true_or, Bool.or_true, Bool.false_or, Bool.or_false, Bool.not_true, Bool.not_false]
        have hN : ¬ ex2 (!inb z1 0 3 || !inb z2 0 3) (!inb uu 0 4) = 0 := kf_ne hX c_11
        refine va_ldcS hx hb hown (hMJ.2.2.2.2.2.2.2.1) dX3_leafTo_43 ?_
        refine lv_goto (tgt := 55) hx hb dX3_leafTo_45 (by decide) ?_
        refine W.widen (k := 4) (n := 40) (show (0 : Nat) ≤ 4 from by omega) (show (0 : Nat) ≤ 40 from by omega) ?_
        exact W.aret (rt := .object "java/lang/String") hx hb hr9 (Or.inl ⟨_, rfl⟩) (Or.inr ⟨_, rfl⟩) (fun t ht hW => ⟨⟨k 7, rfl, ⟨kYcast (by rw [ht]; exact va_Pl hP) rfl (show (ex2 true false) = ex2 (!inb z1 0 3 || !inb z2 0 3) (!inb uu 0 4) from hX.symm), fun z => absurd z hN⟩⟩, hS.F ht⟩) hS.2.2 dX3_leafTo_55 hlocks
      · refine lv_iconst (v := iZ 1) hx hb dX3_leafTo_32 rfl ?_
        refine lv_goto (tgt := 37) hx hb dX3_leafTo_33 (by decide) ?_
        refine kc2 (va_runV (As := [.int (iZ (bZ true)), .int (iZ (bZ true))]) (rest := []) ⟨hx, hb, hml, hown, hts⟩ (c_X3_fails l dC dI dA k m0 (r0) (σ) (th) _ (va_Pl hP) hr hOK true true ) (cwV 2 hts (kg_V mw1037 mw1038 mw27 mw47 rfl mw1039) rfl rfl rfl hdV_X3_fails ⟨Nat.le_of_ble_eq_true rfl, Nat.le_of_ble_eq_true rfl⟩) ⟨fun a U g mk q => ⟨q.1, q.2.1, kM_call q.2.2⟩, va_recv hM.1 hP (ci := 6) (q0 := 0) rfl rfl, fun U hU hW => ⟨rfl, hU, kM_kept hM hS hAN hU hW⟩⟩ rfl rfl hl.1 rfl (lv_room (Nat.le_of_ble_eq_true rfl)) dX3_leafTo_37 ⟨show (0 : Nat) + 0 ≤ 4 from by omega, show (0 : Nat) + 0 ≤ 40 from by omega⟩) hS (fun a _ h => kAy_tr hrA hS.1 a h) (fun a h => kAy_tr hrA hS.1 a h) (fun H locs hP9 hz9 hk9 hS => ?_)
        have hP : va_P (dC, dI) vwCl (kY dA m0 r0 σ (ex2 true true) ++ ([] : va_W)) _ := hP9
        have hD : va_D (kAy m0 r0 s.heap.size) (kY dA m0 r0 σ (ex2 true true) ++ ([] : va_W)) := by rw [← kap]; exact kYD_A hr hrA
        refine kz_ifb_eq (tgt := 48) hx hb  dX3_leafTo_40 (by decide) (fun c_12 => absurd (kf_f c_12).1 (by decide)) (fun c_12 => ?_)
        have hX : ex2 (!inb z1 0 3 || !inb z2 0 3) (!inb uu 0 4) = ex2 true true := by first | rfl | simp only [c_1, c_5, c_10, Bool.true_or, Bool.or_true, Bool.false_or, Bool.or_false, Bool.not_true, Bool.not_false]
        have hN : ¬ ex2 (!inb z1 0 3 || !inb z2 0 3) (!inb uu 0 4) = 0 := kf_ne hX c_12
        refine va_ldcS hx hb hown (hMJ.2.2.2.2.2.2.2.1) dX3_leafTo_43 ?_
        refine lv_goto (tgt := 55) hx hb dX3_leafTo_45 (by decide) ?_
        refine W.widen (k := 4) (n := 40) (show (0 : Nat) ≤ 4 from by omega) (show (0 : Nat) ≤ 40 from by omega) ?_
        exact W.aret (rt := .object "java/lang/String") hx hb hr9 (Or.inl ⟨_, rfl⟩) (Or.inr ⟨_, rfl⟩) (fun t ht hW => ⟨⟨k 7, rfl, ⟨kYcast (by rw [ht]; exact va_Pl hP) rfl (show (ex2 true true) = ex2 (!inb z1 0 3 || !inb z2 0 3) (!inb uu 0 4) from hX.symm), fun z => absurd z hN⟩⟩, hS.F ht⟩) hS.2.2 dX3_leafTo_55 hlocks

abbrev ww_X3_yearTo : List Cond := .code yX3_yearTo cX3_yearTo 5 (some (.object "java/lang/String")) :: gT
set_option maxHeartbeats 4000000 in
set_option maxRecDepth 100000 in
theorem c_X3_yearTo (l : Launch) (dC : Nat → ClassId) (dI : Nat → Nat → Nat) (dA : Nat → ClassId) (k : Nat → Nat) (m0 : Nat) (r0 : Nat → Nat → Nat) (σ : Nat → Nat → Int) (th : Int) (H0 : Heap) (hP : va_P (dC, dI) vwCl (kY dA m0 r0 σ th) H0) (hr : kRI m0 r0 k) (hOK : kOK σ) (z1 : Int) (z2 : Int) (uu : Int) (bb : Bool) (rz1 : -2147483648 ≤ z1 ∧ z1 < 2147483648) (rz2 : -2147483648 ≤ z2 ∧ z2 < 2147483648) (ruu : -2147483648 ≤ uu ∧ uu < 2147483648) : Met l yX3_yearTo ww_X3_yearTo ({ frames := 7, cells := 4, slots := 40, locals := 191 }) (va_Pc [.ref m0, .int (iZ z1), .int (iZ z2), .int (iZ uu), .int (iZ (bZ (bb)))] (fun U => U.heap = H0 ∧ kMJ dC dI dA k U)) (kQ2r (fun x H => va_P (dC, dI) vwCl (kY dA m0 r0 σ (ex2 (!inb z1 0 3 || !inb z2 0 3) (!inb uu 1 4))) H ∧ (ex2 (!inb z1 0 3 || !inb z2 0 3) (!inb uu 1 4) = 0 → kTX dC dI dA (tq (12 * (σ 2 z2.toNat - σ 2 z1.toNat)) (usize uu)) x H)) (kAy m0 r0 H0.size)) 4 40 (kAy m0 r0 H0.size) := by
  refine Met.ofW (cc := cX3_yearTo) (maxL := 5) (ret := (some (.object "java/lang/String"))) (by decide) rfl ?_
  intro p e s m args below meth c s₁ B hml hv
  obtain ⟨rfl, hH, hMJ⟩ := hv
  subst hH
  have hM := hMJ.1
  have hr0 := hr
  have hAN : ∀ a, kAy m0 r0 s.heap.size a → k 0 ≤ a := fun a h => kAy_N hr0 hM.2.1.1 a h
  have hrA : ∀ i : Nat, i < 17 → kAy m0 r0 s.heap.size (kR m0 r0 i) := fun i hi => Or.inl ⟨i, hi, rfl⟩
  have hD : va_D (kAy m0 r0 s.heap.size) (kY dA m0 r0 σ (th) ++ ([] : va_W)) := by rw [← kap]; exact kYD_A hr hrA
  have hP : va_P (dC, dI) vwCl (kY dA m0 r0 σ (th) ++ ([] : va_W)) s.heap := hP
  have hS : va_S (kAy m0 r0 s.heap.size) s.heap s.heap [] := va_S.rf
  have hx := B.exec
  have hb := B.bytes
  have hr9 := B.returns
  have hts := atoms_spec (ws := ww_X3_yearTo) B.pre
  have hown : s.vm.findClass RX3 = some m.cls := findClass_of_methodNamed B.named
  have hlocks := B.notSynchronized
  have hl := lv_entry ([.ref m0, .int (iZ z1), .int (iZ z2), .int (iZ uu), .int (iZ (bZ (bb)))]) (n := 5) (Nat.le_of_ble_eq_true rfl)
  rw [lg_entry_eq]
  generalize (lg_sl ([.ref m0, .int (iZ z1), .int (iZ z2), .int (iZ uu), .int (iZ (bZ (bb)))]) ++ List.replicate (5 - (lg_sl ([.ref m0, .int (iZ z1), .int (iZ z2), .int (iZ uu), .int (iZ (bZ (bb)))])).length) Slot.unset).toArray = ls at hl ⊢
  have hl : lv_has ls 5 [(0, .ref m0), (1, .int (iZ z1)), (2, .int (iZ z2)), (3, .int (iZ uu)), (4, .int (iZ (bZ (bb))))] := hl
  refine lv_aload_n hx hb dX3_yearTo_0 rfl (lv_at hl 0 rfl) ?_
  refine lv_iload_n hx hb dX3_yearTo_1 rfl (lv_at hl 1 rfl) ?_
  refine kc0 (fun _ q => q) (va_runS (As := [.int (iZ z1)]) (rest := [.ref m0]) ⟨hx, hb, hml, hown, hts⟩ (c_X3_isNo l _ (z1) (by omega)) (va_cwS 1 hts (kg_S mw1021 mw1022 mw47 rfl mw1023) rfl rfl rfl hdS_X3_isNo ⟨Nat.le_of_ble_eq_true rfl, Nat.le_of_ble_eq_true rfl⟩) ⟨fun a U g mk q => q, fun U hU hW => ⟨rfl, hU⟩⟩ rfl rfl hl.1 rfl (lv_room (Nat.le_of_ble_eq_true rfl)) dX3_yearTo_2 ⟨show (0 : Nat) + 0 ≤ 4 from by omega, show (0 : Nat) + 0 ≤ 40 from by omega⟩) ?_
  refine kz_ifb_ne (tgt := 15) hx hb  dX3_yearTo_5 (by decide) (fun c_1 => ?_) (fun c_1 => ?_)
  · refine lv_iconst (v := iZ 1) hx hb dX3_yearTo_15 rfl ?_
    refine lv_goto (tgt := 20) hx hb dX3_yearTo_16 (by decide) ?_
    refine lv_iload_n hx hb dX3_yearTo_20 rfl (lv_at hl 3 rfl) ?_
    refine kz_i2l hx hb (by first | omega | (have hu := usize_rng uu; omega) | (have := yus_e (u := uu) (by omega); have := yus_rng uu; omega)) dX3_yearTo_21 ?_
    refine lv_lconst (v := lZ 1) hx hb dX3_yearTo_22 rfl ?_
    refine lv_ldc2 (v := lZ 4) hx hb hown (hts _ (List.mem_cons_of_mem _ mw1090)) dX3_yearTo_23 ?_
    refine kc0 (fun _ q => q) (va_runS (As := [.long (lZ (uu)), .long (lZ (1)), .long (lZ (4))]) (rest := [.int (iZ 1), .ref m0]) ⟨hx, hb, hml, hown, hts⟩ (c_X3_isIn l _ (uu) (1) (4) (by omega) (by omega) (by omega)) (va_cwS 3 hts (kg_S mw1025 mw1026 mw47 rfl mw1027) rfl rfl rfl hdS_X3_isIn ⟨Nat.le_of_ble_eq_true rfl, Nat.le_of_ble_eq_true rfl⟩) ⟨fun a U g mk q => q, fun U hU hW => ⟨rfl, hU⟩⟩ rfl rfl hl.1 rfl (lv_room (Nat.le_of_ble_eq_true rfl)) dX3_yearTo_26 ⟨show (0 : Nat) + 0 ≤ 4 from by omega, show (0 : Nat) + 0 ≤ 40 from by omega⟩) ?_
    refine kz_ifb_ne (tgt := 36) hx hb  dX3_yearTo_29 (by decide) (fun c_2 => ?_) (fun c_2 => ?_)
    · refine lv_iconst (v := iZ 0) hx hb dX3_yearTo_36 rfl ?_
      refine kc2 (va_runV (As := [.int (iZ (bZ true)), .int (iZ (bZ false))]) (rest := []) ⟨hx, hb, hml, hown, hts⟩ (c_X3_fails l dC dI dA k m0 (r0) (σ) (th) _ (va_Pl hP) hr hOK true false ) (cwV 2 hts (kg_V mw1037 mw1038 mw27 mw47 rfl mw1039) rfl rfl rfl hdV_X3_fails ⟨Nat.le_of_ble_eq_true rfl, Nat.le_of_ble_eq_true rfl⟩) ⟨fun a U g mk q => ⟨q.1, q.2.1, kM_call q.2.2⟩, va_recv hM.1 hP (ci := 6) (q0 := 0) rfl rfl, fun U hU hW => ⟨rfl, hU, kM_kept hM hS hAN hU hW⟩⟩ rfl rfl hl.1 rfl (lv_room (Nat.le_of_ble_eq_true rfl)) dX3_yearTo_37 ⟨show (0 : Nat) + 0 ≤ 4 from by omega, show (0 : Nat) + 0 ≤ 40 from by omega⟩) hS (fun a _ h => kAy_tr hrA hS.1 a h) (fun a h => kAy_tr hrA hS.1 a h) (fun H locs hP9 hz9 hk9 hS => ?_)
      have hP : va_P (dC, dI) vwCl (kY dA m0 r0 σ (ex2 true false) ++ ([] : va_W)) _ := hP9
      have hD : va_D (kAy m0 r0 s.heap.size) (kY dA m0 r0 σ (ex2 true false) ++ ([] : va_W)) := by rw [← kap]; exact kYD_A hr hrA
      refine kz_ifb_eq (tgt := 46) hx hb  dX3_yearTo_40 (by decide) (fun c_3 => absurd (kf_f c_3).1 (by decide)) (fun c_3 => ?_)
      have hX : ex2 (!inb z1 0 3 || !inb z2 0 3) (!inb uu 1 4) = ex2 true false := by first | rfl | simp only [c_1, c_2, Bool.true_or, Bool.or_true, Bool.false_or, Bool.or_false, Bool.not_true, Bool.not_false]
      have hN : ¬ ex2 (!inb z1 0 3 || !inb z2 0 3) (!inb uu 1 4) = 0 := kf_ne hX c_3
      refine va_ldcS hx hb hown (hMJ.2.2.2.2.2.2.2.1) dX3_yearTo_43 ?_
      refine W.widen (k := 4) (n := 40) (show (0 : Nat) ≤ 4 from by omega) (show (0 : Nat) ≤ 40 from by omega) ?_
      exact W.aret (rt := .object "java/lang/String") hx hb hr9 (Or.inl ⟨_, rfl⟩) (Or.inr ⟨_, rfl⟩) (fun t ht hW => ⟨⟨k 7, rfl, ⟨kYcast (by rw [ht]; exact va_Pl hP) rfl (show (ex2 true false) = ex2 (!inb z1 0 3 || !inb z2 0 3) (!inb uu 1 4) from hX.symm), fun z => absurd z hN⟩⟩, hS.F ht⟩) hS.2.2 dX3_yearTo_45 hlocks
    · refine lv_iconst (v := iZ 1) hx hb dX3_yearTo_32 rfl ?_
      refine lv_goto (tgt := 37) hx hb dX3_yearTo_33 (by decide) ?_
      refine kc2 (va_runV (As := [.int (iZ (bZ true)), .int (iZ (bZ true))]) (rest := []) ⟨hx, hb, hml, hown, hts⟩ (c_X3_fails l dC dI dA k m0 (r0) (σ) (th) _ (va_Pl hP) hr hOK true true ) (cwV 2 hts (kg_V mw1037 mw1038 mw27 mw47 rfl mw1039) rfl rfl rfl hdV_X3_fails ⟨Nat.le_of_ble_eq_true rfl, Nat.le_of_ble_eq_true rfl⟩) ⟨fun a U g mk q => ⟨q.1, q.2.1, kM_call q.2.2⟩, va_recv hM.1 hP (ci := 6) (q0 := 0) rfl rfl, fun U hU hW => ⟨rfl, hU, kM_kept hM hS hAN hU hW⟩⟩ rfl rfl hl.1 rfl (lv_room (Nat.le_of_ble_eq_true rfl)) dX3_yearTo_37 ⟨show (0 : Nat) + 0 ≤ 4 from by omega, show (0 : Nat) + 0 ≤ 40 from by omega⟩) hS (fun a _ h => kAy_tr hrA hS.1 a h) (fun a h => kAy_tr hrA hS.1 a h) (fun H locs hP9 hz9 hk9 hS => ?_)
      have hP : va_P (dC, dI) vwCl (kY dA m0 r0 σ (ex2 true true) ++ ([] : va_W)) _ := hP9
      have hD : va_D (kAy m0 r0 s.heap.size) (kY dA m0 r0 σ (ex2 true true) ++ ([] : va_W)) := by rw [← kap]; exact kYD_A hr hrA
      refine kz_ifb_eq (tgt := 46) hx hb  dX3_yearTo_40 (by decide) (fun c_4 => absurd (kf_f c_4).1 (by decide)) (fun c_4 => ?_)
      have hX : ex2 (!inb z1 0 3 || !inb z2 0 3) (!inb uu 1 4) = ex2 true true := by first | rfl | simp only [c_1, c_2, Bool.true_or, Bool.or_true, Bool.false_or, Bool.or_false, Bool.not_true, Bool.not_false]
      have hN : ¬ ex2 (!inb z1 0 3 || !inb z2 0 3) (!inb uu 1 4) = 0 := kf_ne hX c_4
      refine va_ldcS hx hb hown (hMJ.2.2.2.2.2.2.2.1) dX3_yearTo_43 ?_
      refine W.widen (k := 4) (n := 40) (show (0 : Nat) ≤ 4 from by omega) (show (0 : Nat) ≤ 40 from by omega) ?_
      exact W.aret (rt := .object "java/lang/String") hx hb hr9 (Or.inl ⟨_, rfl⟩) (Or.inr ⟨_, rfl⟩) (fun t ht hW => ⟨⟨k 7, rfl, ⟨kYcast (by rw [ht]; exact va_Pl hP) rfl (show (ex2 true true) = ex2 (!inb z1 0 3 || !inb z2 0 3) (!inb uu 1 4) from hX.symm), fun z => absurd z hN⟩⟩, hS.F ht⟩) hS.2.2 dX3_yearTo_45 hlocks
  · refine lv_iload_n hx hb dX3_yearTo_8 rfl (lv_at hl 2 rfl) ?_
    refine kc0 (fun _ q => q) (va_runS (As := [.int (iZ z2)]) (rest := [.ref m0]) ⟨hx, hb, hml, hown, hts⟩ (c_X3_isNo l _ (z2) (by omega)) (va_cwS 1 hts (kg_S mw1021 mw1022 mw47 rfl mw1023) rfl rfl rfl hdS_X3_isNo ⟨Nat.le_of_ble_eq_true rfl, Nat.le_of_ble_eq_true rfl⟩) ⟨fun a U g mk q => q, fun U hU hW => ⟨rfl, hU⟩⟩ rfl rfl hl.1 rfl (lv_room (Nat.le_of_ble_eq_true rfl)) dX3_yearTo_9 ⟨show (0 : Nat) + 0 ≤ 4 from by omega, show (0 : Nat) + 0 ≤ 40 from by omega⟩) ?_
    refine kz_ifb_eq (tgt := 19) hx hb  dX3_yearTo_12 (by decide) (fun c_5 => ?_) (fun c_5 => ?_)
    · refine lv_iconst (v := iZ 0) hx hb dX3_yearTo_19 rfl ?_
      refine lv_iload_n hx hb dX3_yearTo_20 rfl (lv_at hl 3 rfl) ?_
      refine kz_i2l hx hb (by first | omega | (have hu := usize_rng uu; omega) | (have := yus_e (u := uu) (by omega); have := yus_rng uu; omega)) dX3_yearTo_21 ?_
      refine lv_lconst (v := lZ 1) hx hb dX3_yearTo_22 rfl ?_
      refine lv_ldc2 (v := lZ 4) hx hb hown (hts _ (List.mem_cons_of_mem _ mw1090)) dX3_yearTo_23 ?_
      refine kc0 (fun _ q => q) (va_runS (As := [.long (lZ (uu)), .long (lZ (1)), .long (lZ (4))]) (rest := [.int (iZ 0), .ref m0]) ⟨hx, hb, hml, hown, hts⟩ (c_X3_isIn l _ (uu) (1) (4) (by omega) (by omega) (by omega)) (va_cwS 3 hts (kg_S mw1025 mw1026 mw47 rfl mw1027) rfl rfl rfl hdS_X3_isIn ⟨Nat.le_of_ble_eq_true rfl, Nat.le_of_ble_eq_true rfl⟩) ⟨fun a U g mk q => q, fun U hU hW => ⟨rfl, hU⟩⟩ rfl rfl hl.1 rfl (lv_room (Nat.le_of_ble_eq_true rfl)) dX3_yearTo_26 ⟨show (0 : Nat) + 0 ≤ 4 from by omega, show (0 : Nat) + 0 ≤ 40 from by omega⟩) ?_
      refine kz_ifb_ne (tgt := 36) hx hb  dX3_yearTo_29 (by decide) (fun c_6 => ?_) (fun c_6 => ?_)
      · refine lv_iconst (v := iZ 0) hx hb dX3_yearTo_36 rfl ?_
        refine kc2 (va_runV (As := [.int (iZ (bZ false)), .int (iZ (bZ false))]) (rest := []) ⟨hx, hb, hml, hown, hts⟩ (c_X3_fails l dC dI dA k m0 (r0) (σ) (th) _ (va_Pl hP) hr hOK false false ) (cwV 2 hts (kg_V mw1037 mw1038 mw27 mw47 rfl mw1039) rfl rfl rfl hdV_X3_fails ⟨Nat.le_of_ble_eq_true rfl, Nat.le_of_ble_eq_true rfl⟩) ⟨fun a U g mk q => ⟨q.1, q.2.1, kM_call q.2.2⟩, va_recv hM.1 hP (ci := 6) (q0 := 0) rfl rfl, fun U hU hW => ⟨rfl, hU, kM_kept hM hS hAN hU hW⟩⟩ rfl rfl hl.1 rfl (lv_room (Nat.le_of_ble_eq_true rfl)) dX3_yearTo_37 ⟨show (0 : Nat) + 0 ≤ 4 from by omega, show (0 : Nat) + 0 ≤ 40 from by omega⟩) hS (fun a _ h => kAy_tr hrA hS.1 a h) (fun a h => kAy_tr hrA hS.1 a h) (fun H locs hP9 hz9 hk9 hS => ?_)
        have hP : va_P (dC, dI) vwCl (kY dA m0 r0 σ (ex2 false false) ++ ([] : va_W)) _ := hP9
        have hD : va_D (kAy m0 r0 s.heap.size) (kY dA m0 r0 σ (ex2 false false) ++ ([] : va_W)) := by rw [← kap]; exact kYD_A hr hrA
        refine kz_ifb_eq (tgt := 46) hx hb  dX3_yearTo_40 (by decide) (fun c_7 => ?_) (fun c_7 => absurd (show ex2 false false = 0 from rfl) (kf_t c_7))
        have hX : ex2 (!inb z1 0 3 || !inb z2 0 3) (!inb uu 1 4) = ex2 false false := by first | rfl | simp only [c_1, c_5, c_6, Bool.true_or, Bool.or_true, Bool.false_or, Bool.or_false, Bool.not_true, Bool.not_false]
        have hZ : ex2 (!inb z1 0 3 || !inb z2 0 3) (!inb uu 1 4) = 0 := kf_eq hX c_7
        obtain ⟨hA9, hB9⟩ := ex2_z hZ
        simp only [Bool.or_eq_false_iff, Bool.not_eq_false', Bool.not_eq_true', inb, decide_eq_true_eq, decide_eq_false_iff_not, noThing_niff] at hA9
        simp only [Bool.or_eq_false_iff, Bool.not_eq_false', Bool.not_eq_true', inb, decide_eq_true_eq, decide_eq_false_iff_not, noThing_niff] at hB9
        obtain ⟨p1, hp1, rfl⟩ : ∃ p1 : Nat, p1 < 4 ∧ z1 = (p1 : Int) := ⟨z1.toNat, by omega, by omega⟩
        have o_p1 := kOKr hOK hp1
        have l_p1 := mlen_rng (leap (σ 0 p1)) (σ 1 p1)
        have n_p1 := dnum_rng (y := σ 5 p1) (m := σ 6 p1) (d := σ 7 p1) (by omega) (by omega) (by omega)
        obtain ⟨p2, hp2, rfl⟩ : ∃ p2 : Nat, p2 < 4 ∧ z2 = (p2 : Int) := ⟨z2.toNat, by omega, by omega⟩
        have o_p2 := kOKr hOK hp2
        have l_p2 := mlen_rng (leap (σ 0 p2)) (σ 1 p2)
        have n_p2 := dnum_rng (y := σ 5 p2) (m := σ 6 p2) (d := σ 7 p2) (by omega) (by omega) (by omega)
        have hP := kY0 hP (kf_e c_7)
        have hD := kD0 hD (kf_e c_7)
        refine va_new (ci := 1) (fs := [.null, .int 0, .int 0, .int 0]) (C := RJ4) (T := TJ4) (N := 4) hx hb hts (fun w h => List.mem_cons_of_mem _ (gF_3_in h)) tyJ4 tyJ4_ok hown (hts _ (List.mem_cons_of_mem _ mw1262)) (hts _ (List.mem_cons_of_mem _ mw72)) (hts _ (List.mem_cons_of_mem _ mw44)) hM.1 hP hD hS kAy_new rfl (fun j hj => by rcases (show j = 0 ∨ j = 1 ∨ j = 2 ∨ j = 3 by omega) with rfl | rfl | rfl | rfl <;> rfl) (show (0 : Nat) + 1 ≤ 4 from by omega) (show (0 : Nat) + 4 ≤ 40 from by omega) dX3_yearTo_46 (fun b9 H hPn hDn hS => ?_)
        have hnb : ∀ i : Nat, i < 17 → b9 ≠ kR m0 r0 i := kfreshY hDn
        have hbs : s.heap.size ≤ b9 := (hDn.2 17 _ rfl).elim (fun ⟨i9, hi9, e9⟩ => absurd e9 (hnb i9 hi9)) id
        have hkb : k 0 ≤ b9 := hAN _ (hDn.2 17 _ rfl)
        have hB := va_Pr hPn
        have hP : va_P (dC, dI) vwCl (kY dA m0 r0 σ (0) ++ ([] : va_W)) _ := va_Pl hPn
        clear hPn hDn
        have hD : va_D (kAy m0 r0 s.heap.size) (kY dA m0 r0 σ (0) ++ ([] : va_W)) := by rw [← kap]; exact kYD_A hr hrA
        refine lv_dup hx hb dX3_yearTo_49 rfl ?_
        have hsz9 := hS.1
        have hyl := kYltR hP
        refine kc2 (va_runI (As := []) (rest := [.ref b9]) ⟨hx, hb, hml, hown, hts⟩ (c_J4_init_da8c8 l dC dI dA k b9 _ hB hkb) (cwI 0 hts (kg_G rfl mw75) rfl rfl rfl (hts _ (List.mem_cons_of_mem _ mw44)) (hts _ (List.mem_cons_of_mem _ mw1263)) (hts _ (List.mem_cons_of_mem _ mw74)) rfl (by decide +kernel) ⟨Nat.le_of_ble_eq_true rfl, Nat.le_of_ble_eq_true rfl⟩) ⟨fun a U g mk q => ⟨q.1, q.2.1, kMJ_call q.2.2⟩, fun U hU hW => ⟨rfl, hU, kMJ_kept hMJ hS hAN hU hW⟩⟩ rfl rfl hl.1 rfl (lv_room (Nat.le_of_ble_eq_true rfl)) dX3_yearTo_50 ⟨show (0 + 1 : Nat) + 1 ≤ 4 from by omega, show (0 + 4 : Nat) + 16 ≤ 40 from by omega⟩) hS (fun a _ h => kAy_A0 hS.1 hbs a h) (fun a h => kAy_A0 hS.1 hbs a h) (fun H1 locs hG hy9 hk9 hS => ?_)
        obtain ⟨v9, hv1, hv2, hB⟩ := hG
        have hvs : s.heap.size ≤ v9 := Nat.le_trans hsz9 hv1
        have hnv : ∀ i : Nat, i < 17 → v9 ≠ kR m0 r0 i := fun i hi z => absurd (hyl i hi) (by rw [← z]; exact Nat.not_lt.mpr hv1)
        have hkv : k 0 ≤ v9 := Nat.le_trans hM.2.1.1 hvs
        have hP := kY_kept0 hP hk9 hnb
        clear hk9 hy9 hyl hsz9 hv1
        generalize H1 = H at hP hS hB ⊢
        have hD : va_D (kAy m0 r0 s.heap.size) (kY dA m0 r0 σ (0) ++ ([] : va_W)) := by rw [← kap]; exact kYD_A hr hrA
        refine va_ldcS hx hb hown (hMJ.2.2.2.2.2.2.2.1) dX3_yearTo_53 ?_
        refine kc2 (va_runV (As := [.ref (k 7)]) (rest := []) ⟨hx, hb, hml, hown, hts⟩ (c_J4_append_15ec4 l dC dI dA k b9 v9 (fun _ => (0 : Int)) 0 0 _ hB (Or.inl rfl) hv2 hkb hkv kG_0 (by decide)) (cwV 1 hts (kg_V mw1264 mw257 mw258 mw44 rfl mw259) rfl rfl rfl hdV_J4_append_15ec4 ⟨Nat.le_of_ble_eq_true rfl, Nat.le_of_ble_eq_true rfl⟩) ⟨fun a U g mk q => ⟨q.1, q.2.1, kMJ_call q.2.2⟩, va_recv hMJ.1.1 hB (ci := 1) (q0 := 0) rfl rfl, fun U hU hW => ⟨rfl, hU, kMJ_kept hMJ hS hAN hU hW⟩⟩ rfl rfl hl.1 rfl (lv_room (Nat.le_of_ble_eq_true rfl)) dX3_yearTo_55 ⟨show (0 + 1 + 1 : Nat) + 0 ≤ 4 from by omega, show (0 + 4 + 16 : Nat) + 0 ≤ 40 from by omega⟩) hS (fun a _ h => kAy_AB hS.1 hbs hvs a h) (fun a h => kAy_AB hS.1 hbs hvs a h) (fun H1 locs hG hy9 hk9 hS => ?_)
        obtain ⟨tm9, htm9, hB⟩ := hG
        have hP := kY_keptB hP hk9 hnb hnv
        clear hk9 hy9
        generalize H1 = H at hP hS hB ⊢
        have hD : va_D (kAy m0 r0 s.heap.size) (kY dA m0 r0 σ (0) ++ ([] : va_W)) := by rw [← kap]; exact kYD_A hr hrA
        refine lv_aload_n hx hb dX3_yearTo_58 rfl (lv_at hl 0 rfl) ?_
        refine va_get (D := (dC, dI)) (ci := 6) (v := .ref (r0 0 2)) (C := RX3) (T := TX3) (N := 6) hx hb hts (fun w h => List.mem_cons_of_mem _ (gF_2_in h)) hown hM.1 hP 0 rfl rfl 1 (by decide) (hts _ (List.mem_cons_of_mem _ mw1008)) (fun _ h9 => h9) rfl dX3_yearTo_59 ?_
        refine lv_iload_n hx hb dX3_yearTo_62 rfl (lv_at hl 2 rfl) ?_
        refine kz_iald (v := σ 2 p2) hx hb hM.1 hP 2 0 rfl rfl (by omega) (by decide) rfl dX3_yearTo_63 ?_
        refine kz_i2l hx hb (by first | omega | (have hu := usize_rng uu; omega) | (have := yus_e (u := uu) (by omega); have := yus_rng uu; omega)) dX3_yearTo_64 ?_
        refine lv_aload_n hx hb dX3_yearTo_65 rfl (lv_at hl 0 rfl) ?_
        refine va_get (D := (dC, dI)) (ci := 6) (v := .ref (r0 0 2)) (C := RX3) (T := TX3) (N := 6) hx hb hts (fun w h => List.mem_cons_of_mem _ (gF_2_in h)) hown hM.1 hP 0 rfl rfl 1 (by decide) (hts _ (List.mem_cons_of_mem _ mw1008)) (fun _ h9 => h9) rfl dX3_yearTo_66 ?_
        refine lv_iload_n hx hb dX3_yearTo_69 rfl (lv_at hl 1 rfl) ?_
        refine kz_iald (v := σ 2 p1) hx hb hM.1 hP 2 0 rfl rfl (by omega) (by decide) rfl dX3_yearTo_70 ?_
        refine kz_i2l hx hb (by first | omega | (have hu := usize_rng uu; omega) | (have := yus_e (u := uu) (by omega); have := yus_rng uu; omega)) dX3_yearTo_71 ?_
        refine kz_lsub hx hb dX3_yearTo_72 ?_
        refine va_gets (v := .ref (k 4)) hx hb hM.2.1.2.2.2.2.2.2.2.1 (kSN hS hAN) hown (hts _ (List.mem_cons_of_mem _ mw1091)) (fun _ h9 => h9) dX3_yearTo_73 ?_
        refine lv_iload_n hx hb dX3_yearTo_76 rfl (lv_at hl 3 rfl) ?_
        refine kz_ti (v := usize uu) hx hb hM.2.1.2.2.2.2.2.2.2.2.1 (kSN hS hAN) (by first | omega | (have hu := usize_rng uu; omega) | (have := yus_e (u := uu) (by omega); have := yus_rng uu; omega)) (by decide) (by unfold usize; (repeat' split) <;> simp_all <;> omega) dX3_yearTo_77 ?_
        refine lv_bipush (v := iZ 12) hx hb dX3_yearTo_78 rfl ?_
        refine kz_idiv hx hb (by first | omega | (have hu := usize_rng uu; omega) | (have := yus_e (u := uu) (by omega); have := yus_rng uu; omega)) (by first | omega | (have hu := usize_rng uu; omega) | (have := yus_e (u := uu) (by omega); have := yus_rng uu; omega)) dX3_yearTo_80 ?_
        refine kz_i2l hx hb (by first | omega | (have hu := usize_rng uu; omega) | (have := yus_e (u := uu) (by omega); have := yus_rng uu; omega)) dX3_yearTo_81 ?_
        refine kz_ldiv hx hb (by first | omega | (have hu := usize_rng uu; omega) | (have := yus_e (u := uu) (by omega); have := yus_rng uu; omega)) (by first | omega | (have hu := usize_rng uu; omega) | (have := yus_e (u := uu) (by omega); have := yus_rng uu; omega)) dX3_yearTo_82 ?_
        have hz9 : (tq (((σ 2 p2)) - ((σ 2 p1))) ((tq (usize uu) 12))).natAbs < 10000000000000 := by have h8 := yus_e (u := uu) (by omega); have h7 := yus_rng uu; have h6 := tq_abs (x := σ 2 p2 - σ 2 p1) (y := tq (usize uu) 12) (by omega); omega
        refine kc2 (va_runV (As := [.long (lZ (tq (((σ 2 p2)) - ((σ 2 p1))) ((tq (usize uu) 12))))]) (rest := []) ⟨hx, hb, hml, hown, hts⟩ (c_J4_append_f7089 l dC dI dA k b9 v9 (fun _ => (0 : Int)) tm9 _ hB htm9 hv2 hkb hkv kG_0 (tq (((σ 2 p2)) - ((σ 2 p1))) ((tq (usize uu) 12))) hz9) (cwV 1 hts (kg_V mw1265 mw1266 mw1267 mw44 rfl mw1268) rfl rfl rfl hdV_J4_append_f7089 ⟨Nat.le_of_ble_eq_true rfl, Nat.le_of_ble_eq_true rfl⟩) ⟨fun a U g mk q => ⟨q.1, q.2.1, kMJ_call q.2.2⟩, va_recv hMJ.1.1 hB (ci := 1) (q0 := 0) rfl rfl, fun U hU hW => ⟨rfl, hU, kMJ_kept hMJ hS hAN hU hW⟩⟩ rfl rfl hl.1 rfl (lv_room (Nat.le_of_ble_eq_true rfl)) dX3_yearTo_83 ⟨show (0 + 1 + 1 : Nat) + 0 ≤ 4 from by omega, show (0 + 4 + 16 : Nat) + 0 ≤ 40 from by omega⟩) hS (fun a _ h => kAy_AB hS.1 hbs hvs a h) (fun a h => kAy_AB hS.1 hbs hvs a h) (fun H1 locs hG hy9 hk9 hS => ?_)
        obtain ⟨g9, hg9, ht9, tm9, htm9, hB⟩ := hG
        have hP := kY_keptB hP hk9 hnb hnv
        clear hk9 hy9
        generalize H1 = H at hP hS hB ⊢
        have hD : va_D (kAy m0 r0 s.heap.size) (kY dA m0 r0 σ (0) ++ ([] : va_W)) := by rw [← kap]; exact kYD_A hr hrA
        refine kcS (va_runV (As := []) (rest := []) ⟨hx, hb, hml, hown, hts⟩ (c_J4_toString_0e30d l dC dI dA k b9 v9 g9 tm9 (TL (tq (((σ 2 p2)) - ((σ 2 p1))) ((tq (usize uu) 12)))) _ hB htm9 hv2 hkb hkv hg9 (by have := TL_rng hz9; omega)) (cwV 0 hts (kg_V mw1292 mw389 mw390 mw44 rfl mw391) rfl rfl rfl hdV_J4_toString_0e30d ⟨Nat.le_of_ble_eq_true rfl, Nat.le_of_ble_eq_true rfl⟩) ⟨fun a U g mk q => ⟨q.1, q.2.1, kMJ_call q.2.2⟩, va_recv hMJ.1.1 hB (ci := 1) (q0 := 0) rfl rfl, fun U hU hW => ⟨rfl, hU, kMJ_kept hMJ hS hAN hU hW⟩⟩ rfl rfl hl.1 rfl (lv_room (Nat.le_of_ble_eq_true rfl)) dX3_yearTo_86 ⟨show (0 + 1 + 1 : Nat) + 2 ≤ 4 from by omega, show (0 + 4 + 16 : Nat) + 20 ≤ 40 from by omega⟩) hS (fun a _ h => kAy_AB hS.1 hbs hvs a h) (fun a h => kAy_AB hS.1 hbs hvs a h) (fun x9 w9 H1 locs hq1 hq2 hq3 hP9 hy9 hk9 hS => ?_)
        have hT := va_Pr hP9
        have hP := kY_keptB hP hk9 hnb hnv
        have htx : ∀ j, j < TL (tq (((σ 2 p2)) - ((σ 2 p1))) ((tq (usize uu) 12))) → cp g9 (fun _ => 0) (TL (tq (((σ 2 p2)) - ((σ 2 p1))) ((tq (usize uu) 12)))) j = TX (tq (((σ 2 p2)) - ((σ 2 p1))) ((tq (usize uu) 12))) j := fun j hj => by rw [cp_in hj]; exact ht9 j hj
        clear hk9 hy9 hP9 hB hq1 hq2 hq3
        generalize H1 = H at hP hS hT ⊢
        have hD : va_D (kAy m0 r0 s.heap.size) (kY dA m0 r0 σ (0) ++ ([] : va_W)) := by rw [← kap]; exact kYD_A hr hrA
        refine W.widen (k := 4) (n := 40) (show (0 + 1 + 1 + 2 : Nat) ≤ 4 from by omega) (show (0 + 4 + 16 + 20 : Nat) ≤ 40 from by omega) ?_
        exact W.aret (rt := .object "java/lang/String") hx hb hr9 (Or.inl ⟨_, rfl⟩) (Or.inr ⟨_, rfl⟩) (fun t ht hW => ⟨⟨x9, rfl, ⟨kYcast (by rw [ht]; exact va_Pl hP) rfl (show (0) = ex2 (!inb ((p1 : Nat) : Int) 0 3 || !inb ((p2 : Nat) : Int) 0 3) (!inb uu 1 4) from hZ.symm), fun _ => by rw [ht]; exact kTX_e (kyt_e (by omega)) ⟨w9, _, (TL_rng hz9).2, htx, hT⟩⟩⟩, hS.F ht⟩) hS.2.2 dX3_yearTo_89 hlocks
      · refine lv_iconst (v := iZ 1) hx hb dX3_yearTo_32 rfl ?_
        refine lv_goto (tgt := 37) hx hb dX3_yearTo_33 (by decide) ?_
        refine kc2 (va_runV (As := [.int (iZ (bZ false)), .int (iZ (bZ true))]) (rest := []) ⟨hx, hb, hml, hown, hts⟩ (c_X3_fails l dC dI dA k m0 (r0) (σ) (th) _ (va_Pl hP) hr hOK false true ) (cwV 2 hts (kg_V mw1037 mw1038 mw27 mw47 rfl mw1039) rfl rfl rfl hdV_X3_fails ⟨Nat.le_of_ble_eq_true rfl, Nat.le_of_ble_eq_true rfl⟩) ⟨fun a U g mk q => ⟨q.1, q.2.1, kM_call q.2.2⟩, va_recv hM.1 hP (ci := 6) (q0 := 0) rfl rfl, fun U hU hW => ⟨rfl, hU, kM_kept hM hS hAN hU hW⟩⟩ rfl rfl hl.1 rfl (lv_room (Nat.le_of_ble_eq_true rfl)) dX3_yearTo_37 ⟨show (0 : Nat) + 0 ≤ 4 from by omega, show (0 : Nat) + 0 ≤ 40 from by omega⟩) hS (fun a _ h => kAy_tr hrA hS.1 a h) (fun a h => kAy_tr hrA hS.1 a h) (fun H locs hP9 hz9 hk9 hS => ?_)
        have hP : va_P (dC, dI) vwCl (kY dA m0 r0 σ (ex2 false true) ++ ([] : va_W)) _ := hP9
        have hD : va_D (kAy m0 r0 s.heap.size) (kY dA m0 r0 σ (ex2 false true) ++ ([] : va_W)) := by rw [← kap]; exact kYD_A hr hrA
        refine kz_ifb_eq (tgt := 46) hx hb  dX3_yearTo_40 (by decide) (fun c_8 => absurd (kf_f c_8).2 (by decide)) (fun c_8 => ?_)
        have hX : ex2 (!inb z1 0 3 || !inb z2 0 3) (!inb uu 1 4) = ex2 false true := by first | rfl | simp only [c_1, c_5, c_6, Bool.true_or, Bool.or_true, Bool.false_or, Bool.or_false, Bool.not_true, Bool.not_false]
        have hN : ¬ ex2 (!inb z1 0 3 || !inb z2 0 3) (!inb uu 1 4) = 0 := kf_ne hX c_8
        refine va_ldcS hx hb hown (hMJ.2.2.2.2.2.2.2.1) dX3_yearTo_43 ?_
        refine W.widen (k := 4) (n := 40) (show (0 : Nat) ≤ 4 from by omega) (show (0 : Nat) ≤ 40 from by omega) ?_
        exact W.aret (rt := .object "java/lang/String") hx hb hr9 (Or.inl ⟨_, rfl⟩) (Or.inr ⟨_, rfl⟩) (fun t ht hW => ⟨⟨k 7, rfl, ⟨kYcast (by rw [ht]; exact va_Pl hP) rfl (show (ex2 false true) = ex2 (!inb z1 0 3 || !inb z2 0 3) (!inb uu 1 4) from hX.symm), fun z => absurd z hN⟩⟩, hS.F ht⟩) hS.2.2 dX3_yearTo_45 hlocks
    · refine lv_iconst (v := iZ 1) hx hb dX3_yearTo_15 rfl ?_
      refine lv_goto (tgt := 20) hx hb dX3_yearTo_16 (by decide) ?_
      refine lv_iload_n hx hb dX3_yearTo_20 rfl (lv_at hl 3 rfl) ?_
      refine kz_i2l hx hb (by first | omega | (have hu := usize_rng uu; omega) | (have := yus_e (u := uu) (by omega); have := yus_rng uu; omega)) dX3_yearTo_21 ?_
      refine lv_lconst (v := lZ 1) hx hb dX3_yearTo_22 rfl ?_
      refine lv_ldc2 (v := lZ 4) hx hb hown (hts _ (List.mem_cons_of_mem _ mw1090)) dX3_yearTo_23 ?_
      refine kc0 (fun _ q => q) (va_runS (As := [.long (lZ (uu)), .long (lZ (1)), .long (lZ (4))]) (rest := [.int (iZ 1), .ref m0]) ⟨hx, hb, hml, hown, hts⟩ (c_X3_isIn l _ (uu) (1) (4) (by omega) (by omega) (by omega)) (va_cwS 3 hts (kg_S mw1025 mw1026 mw47 rfl mw1027) rfl rfl rfl hdS_X3_isIn ⟨Nat.le_of_ble_eq_true rfl, Nat.le_of_ble_eq_true rfl⟩) ⟨fun a U g mk q => q, fun U hU hW => ⟨rfl, hU⟩⟩ rfl rfl hl.1 rfl (lv_room (Nat.le_of_ble_eq_true rfl)) dX3_yearTo_26 ⟨show (0 : Nat) + 0 ≤ 4 from by omega, show (0 : Nat) + 0 ≤ 40 from by omega⟩) ?_
      refine kz_ifb_ne (tgt := 36) hx hb  dX3_yearTo_29 (by decide) (fun c_9 => ?_) (fun c_9 => ?_)
      · refine lv_iconst (v := iZ 0) hx hb dX3_yearTo_36 rfl ?_
        refine kc2 (va_runV (As := [.int (iZ (bZ true)), .int (iZ (bZ false))]) (rest := []) ⟨hx, hb, hml, hown, hts⟩ (c_X3_fails l dC dI dA k m0 (r0) (σ) (th) _ (va_Pl hP) hr hOK true false ) (cwV 2 hts (kg_V mw1037 mw1038 mw27 mw47 rfl mw1039) rfl rfl rfl hdV_X3_fails ⟨Nat.le_of_ble_eq_true rfl, Nat.le_of_ble_eq_true rfl⟩) ⟨fun a U g mk q => ⟨q.1, q.2.1, kM_call q.2.2⟩, va_recv hM.1 hP (ci := 6) (q0 := 0) rfl rfl, fun U hU hW => ⟨rfl, hU, kM_kept hM hS hAN hU hW⟩⟩ rfl rfl hl.1 rfl (lv_room (Nat.le_of_ble_eq_true rfl)) dX3_yearTo_37 ⟨show (0 : Nat) + 0 ≤ 4 from by omega, show (0 : Nat) + 0 ≤ 40 from by omega⟩) hS (fun a _ h => kAy_tr hrA hS.1 a h) (fun a h => kAy_tr hrA hS.1 a h) (fun H locs hP9 hz9 hk9 hS => ?_)
        have hP : va_P (dC, dI) vwCl (kY dA m0 r0 σ (ex2 true false) ++ ([] : va_W)) _ := hP9
        have hD : va_D (kAy m0 r0 s.heap.size) (kY dA m0 r0 σ (ex2 true false) ++ ([] : va_W)) := by rw [← kap]; exact kYD_A hr hrA
        refine kz_ifb_eq (tgt := 46) hx hb  dX3_yearTo_40 (by decide) (fun c_10 => absurd (kf_f c_10).1 (by decide)) (fun c_10 => ?_)
        have hX : ex2 (!inb z1 0 3 || !inb z2 0 3) (!inb uu 1 4) = ex2 true false := by first | rfl | simp only [c_1, c_5, c_9, Bool.true_or, Bool.or_true, Bool.false_or, Bool.or_false, Bool.not_true, Bool.not_false]
        have hN : ¬ ex2 (!inb z1 0 3 || !inb z2 0 3) (!inb uu 1 4) = 0 := kf_ne hX c_10
        refine va_ldcS hx hb hown (hMJ.2.2.2.2.2.2.2.1) dX3_yearTo_43 ?_
        refine W.widen (k := 4) (n := 40) (show (0 : Nat) ≤ 4 from by omega) (show (0 : Nat) ≤ 40 from by omega) ?_
        exact W.aret (rt := .object "java/lang/String") hx hb hr9 (Or.inl ⟨_, rfl⟩) (Or.inr ⟨_, rfl⟩) (fun t ht hW => ⟨⟨k 7, rfl, ⟨kYcast (by rw [ht]; exact va_Pl hP) rfl (show (ex2 true false) = ex2 (!inb z1 0 3 || !inb z2 0 3) (!inb uu 1 4) from hX.symm), fun z => absurd z hN⟩⟩, hS.F ht⟩) hS.2.2 dX3_yearTo_45 hlocks
      · refine lv_iconst (v := iZ 1) hx hb dX3_yearTo_32 rfl ?_
        refine lv_goto (tgt := 37) hx hb dX3_yearTo_33 (by decide) ?_
        refine kc2 (va_runV (As := [.int (iZ (bZ true)), .int (iZ (bZ true))]) (rest := []) ⟨hx, hb, hml, hown, hts⟩ (c_X3_fails l dC dI dA k m0 (r0) (σ) (th) _ (va_Pl hP) hr hOK true true ) (cwV 2 hts (kg_V mw1037 mw1038 mw27 mw47 rfl mw1039) rfl rfl rfl hdV_X3_fails ⟨Nat.le_of_ble_eq_true rfl, Nat.le_of_ble_eq_true rfl⟩) ⟨fun a U g mk q => ⟨q.1, q.2.1, kM_call q.2.2⟩, va_recv hM.1 hP (ci := 6) (q0 := 0) rfl rfl, fun U hU hW => ⟨rfl, hU, kM_kept hM hS hAN hU hW⟩⟩ rfl rfl hl.1 rfl (lv_room (Nat.le_of_ble_eq_true rfl)) dX3_yearTo_37 ⟨show (0 : Nat) + 0 ≤ 4 from by omega, show (0 : Nat) + 0 ≤ 40 from by omega⟩) hS (fun a _ h => kAy_tr hrA hS.1 a h) (fun a h => kAy_tr hrA hS.1 a h) (fun H locs hP9 hz9 hk9 hS => ?_)
        have hP : va_P (dC, dI) vwCl (kY dA m0 r0 σ (ex2 true true) ++ ([] : va_W)) _ := hP9
        have hD : va_D (kAy m0 r0 s.heap.size) (kY dA m0 r0 σ (ex2 true true) ++ ([] : va_W)) := by rw [← kap]; exact kYD_A hr hrA
        refine kz_ifb_eq (tgt := 46) hx hb  dX3_yearTo_40 (by decide) (fun c_11 => absurd (kf_f c_11).1 (by decide)) (fun c_11 => ?_)
        have hX : ex2 (!inb z1 0 3 || !inb z2 0 3) (!inb uu 1 4) = ex2 true true := by first | rfl | simp only [c_1, c_5, c_9, Bool.true_or, Bool.or_true, Bool.false_or, Bool.or_false, Bool.not_true, Bool.not_false]
        have hN : ¬ ex2 (!inb z1 0 3 || !inb z2 0 3) (!inb uu 1 4) = 0 := kf_ne hX c_11
        refine va_ldcS hx hb hown (hMJ.2.2.2.2.2.2.2.1) dX3_yearTo_43 ?_
        refine W.widen (k := 4) (n := 40) (show (0 : Nat) ≤ 4 from by omega) (show (0 : Nat) ≤ 40 from by omega) ?_
        exact W.aret (rt := .object "java/lang/String") hx hb hr9 (Or.inl ⟨_, rfl⟩) (Or.inr ⟨_, rfl⟩) (fun t ht hW => ⟨⟨k 7, rfl, ⟨kYcast (by rw [ht]; exact va_Pl hP) rfl (show (ex2 true true) = ex2 (!inb z1 0 3 || !inb z2 0 3) (!inb uu 1 4) from hX.symm), fun z => absurd z hN⟩⟩, hS.F ht⟩) hS.2.2 dX3_yearTo_45 hlocks

