theorem va_Pl {D : va_G} {cl : List vw_C} {a b : va_W} {H : Heap} (h : va_P D cl (a ++ b) H) : va_P D cl a H := fun k q hk => h k q (by
  have hl : k < a.length := (List.getElem?_eq_some_iff.mp hk).1
  rw [List.getElem?_append_left hl]; exact hk)
theorem kP_keep {D : va_G} {cl : List vw_C} {ws : va_W} {H H1 : Heap} (h : va_P D cl ws H) (hk : ∀ q : Nat, q < H.size → H1[q]? = H[q]?) : va_P D cl ws H1 := h.kept (fun k q hq => hk _ (h k q hq).lt)
theorem kAy_tr {m0 : Nat} {r0 r : Nat → Nat → Nat} {sz sz' : Nat} (hA : ∀ i : Nat, i < 17 → kAy m0 r0 sz (kR m0 r i)) (h : sz ≤ sz') : ∀ a, kAy m0 r sz' a → kAy m0 r0 sz a := fun a h9 => by
  rcases h9 with ⟨i, hi, rfl⟩ | h9
  · exact hA i hi
  · exact Or.inr (Nat.le_trans h h9)
theorem kAy_tr2 {m0 : Nat} {r0 r r1 : Nat → Nat → Nat} {sz sz' : Nat} (hA : ∀ i : Nat, i < 17 → kAy m0 r0 sz (kR m0 r i)) (h : sz ≤ sz') (h1 : ∀ i : Nat, i < 17 → kAy m0 r sz' (kR m0 r1 i)) : ∀ i : Nat, i < 17 → kAy m0 r0 sz (kR m0 r1 i) := fun i hi => kAy_tr hA h _ (h1 i hi)
theorem kYcast {dC : Nat → ClassId} {dI : Nat → Nat → Nat} {dA : Nat → ClassId} {m0 : Nat} {r : Nat → Nat → Nat} {σ σ' : Nat → Nat → Int} {th th' : Int} {H : Heap} (h : va_P (dC, dI) vwCl (kY dA m0 r σ th) H) (e : σ = σ') (e2 : th = th') : va_P (dC, dI) vwCl (kY dA m0 r σ' th') H := e ▸ e2 ▸ h
theorem kys_Y {D : va_G} {cl : List vw_C} {H : Heap} {dA : Nat → ClassId} {m0 : Nat} {r : Nat → Nat → Nat} {σ : Nat → Nat → Int} {th v1 : Int} {j : Nat} (h : va_P D cl ((kY dA m0 r σ th ++ ([] : va_W)).set 2 (r 0 2, .inl (dA 0, 4, .inl (upd (fun i => iZ (σ 2 i)) (j : Int).toNat (iZ v1))))) H) : va_P D cl (kY dA m0 r (sU σ 2 j v1) th ++ ([] : va_W)) H := by
  have e : (upd (fun i => iZ (σ 2 i)) (j : Int).toNat (iZ v1)) = fun i => iZ (sU σ 2 j v1 2 i) := by
    funext i
    show (if i = j then _ else _) = iZ (if 2 = 2 ∧ i = j then _ else _)
    by_cases hh : i = j
    · simp [hh]
    · simp [hh]
  rw [e] at h
  exact h
theorem kP_T {D : va_G} {cl : List vw_C} {dA : Nat → ClassId} {m0 : Nat} {r : Nat → Nat → Nat} {σ : Nat → Nat → Int} {th : Int} {w : va_W} {A : Nat → Prop} {H H1 : Heap} (hP : va_P D cl (kY dA m0 r σ th ++ w) H) (hD : va_D A (kY dA m0 r σ th ++ w)) (h9 : va_P D cl (kY dA m0 r σ th) H1) (hk : ∀ q : Nat, q < H.size → ¬ kAy m0 r H.size q → H1[q]? = H[q]?) : va_P D cl (kY dA m0 r σ th ++ w) H1 := fun k q hq => by
  by_cases hl : k < (kY dA m0 r σ th).length
  · rw [List.getElem?_append_left hl] at hq; exact h9 k q hq
  · have h1 := hP k q hq
    refine h1.kept (hk _ h1.lt (fun h2 => ?_))
    rcases h2 with ⟨i, hi, e⟩ | h2
    · have hi2 : i < (kY dA m0 r σ th).length := hi
      have h3 := List.getElem?_eq_getElem hi2
      have h4 : (kY dA m0 r σ th ++ w)[i]? = some ((kY dA m0 r σ th)[i]) := by rw [List.getElem?_append_left hi2]; exact h3
      have h5 := hD.1 k i _ _ hq h4 (by rw [e]; exact ((kY_at h3).2).symm)
      omega
    · exact absurd h1.lt (Nat.not_lt.mpr h2)
def kf (A B : Bool) : Bool := decide (¬ ex2 A B = 0)
theorem kf_t {A B : Bool} (h : kf A B = true) : ¬ ex2 A B = 0 := of_decide_eq_true h
theorem kf_f {A B : Bool} (h : kf A B = false) : A = false ∧ B = false := by
  have h1 : ex2 A B = 0 := Decidable.not_not.mp (of_decide_eq_false h)
  cases A <;> cases B <;> simp [ex2] at h1 ⊢
theorem kf_e {A B : Bool} (h : kf A B = false) : ex2 A B = 0 := Decidable.not_not.mp (of_decide_eq_false h)
theorem inYr_eq {σ : Nat → Nat → Int} (h : kOK σ) {j : Nat} (hj : j < 4) (y : Int) : decide (σ 4 j ≤ mlen (leap y) (σ 3 j)) = inYr σ j y := by
  have h3 := (h j hj).2.2.1
  unfold inYr
  by_cases e2 : σ 3 j = 2
  · have h5 := h3.2.2.2
    rw [e2] at h5 ⊢
    have h6 : σ 4 j ≤ 29 := h5
    cases leap y
    · rw [Bool.or_false, decide_eq_decide]; show σ 4 j ≤ 28 ↔ _; omega
    · rw [Bool.or_true, decide_eq_true_iff]; exact h6
  · have e3 : mlen (leap y) (σ 3 j) = mlen true (σ 3 j) := by unfold mlen; rw [if_neg e2, if_neg e2]
    rw [e3, decide_eq_true h3.2.2.2, decide_eq_true (Or.inl e2)]; rfl
theorem isEach_eq {σ : Nat → Nat → Int} (h : kOK σ) {j : Nat} (hj : j < 4) : decide (σ 3 j ≠ 2 ∨ σ 4 j ≠ 29) = decide (σ 3 j ≠ 2 ∨ σ 4 j ≤ 28) := by
  have h3 := (h j hj).2.2.1
  have h5 : σ 3 j = 2 → σ 4 j ≤ 29 := fun e => by have h6 := h3.2.2.2; rw [e] at h6; exact h6
  rw [decide_eq_decide]; omega
def plA (dd : Int) (b : Bool) : Nat → Int
  | 0 => dd
  | n + 1 => plA dd b n + mlen b ((n : Nat) + 1)
theorem plA_eq (dd : Int) (b : Bool) (n : Nat) : plA dd b n = dd + aheadN b n := by
  induction n with
  | zero => exact (Int.add_zero dd).symm
  | succ n ih => show plA dd b n + _ = dd + (aheadN b n + _); rw [ih]; omega
abbrev ww_X3_length : List Cond := .code yX3_length cX3_length 3 (some .int) :: gT
set_option maxHeartbeats 4000000 in
set_option maxRecDepth 100000 in
theorem c_X3_length (l : Launch) (dC : Nat → ClassId) (dI : Nat → Nat → Nat) (dA : Nat → ClassId) (k : Nat → Nat) (H0 : Heap)  (yy : Int) (mo : Int)  (h0 : -9223372036854775808 ≤ yy ∧ yy < 9223372036854775808) (h1 : 1 ≤ mo ∧ mo ≤ 12) : Met l yX3_length ww_X3_length ({ frames := 2, cells := 0, slots := 0, locals := 43 }) (va_Pc [.long (lZ (yy)), .int (iZ mo)] (fun U => U.heap = H0 ∧ kM dC dI dA k U)) (kQ0 (some (.int (iZ (mlen (leap yy) mo)))) H0) 0 0 kN := by
  refine Met.ofW (cc := cX3_length) (maxL := 3) (ret := (some .int)) (by decide) rfl ?_
  intro p e s m args below meth c s₁ B hml hv
  obtain ⟨rfl, hH, hM⟩ := hv
  subst hH
  have hS : va_S (kN0 k) s.heap s.heap [] := va_S.rf
  have hAN : ∀ a, kN0 k a → k 0 ≤ a := fun a h => h
  have hx := B.exec
  have hb := B.bytes
  have hr := B.returns
  have hts := atoms_spec (ws := ww_X3_length) B.pre
  have hown : s.vm.findClass RX3 = some m.cls := findClass_of_methodNamed B.named
  have hlocks := B.notSynchronized
  have hl := lv_entry ([.long (lZ (yy)), .int (iZ mo)]) (n := 3) (Nat.le_of_ble_eq_true rfl)
  rw [lg_entry_eq]
  generalize (lg_sl ([.long (lZ (yy)), .int (iZ mo)]) ++ List.replicate (3 - (lg_sl ([.long (lZ (yy)), .int (iZ mo)])).length) Slot.unset).toArray = ls at hl ⊢
  have hl : lv_has ls 3 [(0, .long (lZ (yy))), (2, .int (iZ mo))] := hl
  refine lv_iload_n hx hb dX3_length_0 rfl (lv_at hl 1 rfl) ?_
  refine lv_iconst (v := iZ 2) hx hb dX3_length_1 rfl ?_
  refine kz_icmp_ne (tgt := 17) hx hb (by omega) (by omega) dX3_length_2 (by decide) (fun c_1 => ?_) (fun c_1 => ?_)
  · refine va_gets (v := .ref (k 3)) hx hb hM.2.1.2.2.2.2.2.1 (kSN hS hAN) hown (hts _ (List.mem_cons_of_mem _ mw1055)) (fun _ h9 => h9) dX3_length_17 ?_
    refine lv_iload_n hx hb dX3_length_20 rfl (lv_at hl 1 rfl) ?_
    refine lv_iconst (v := iZ 1) hx hb dX3_length_21 rfl ?_
    refine kz_isub hx hb dX3_length_22 ?_
    refine kz_ti (v := mlen false mo) hx hb hM.2.1.2.2.2.2.2.2.1 (kSN hS hAN) (by omega) (by decide) (by show Value.int (iZ (mlen false ((((mo - 1).toNat : Nat) : Int) + 1))) = _; rw [show (((mo - 1).toNat : Nat) : Int) + 1 = mo from by omega]) dX3_length_23 ?_
    exact W.iret (v := iZ (mlen false mo)) hx hb hr (fun t ht hW => ⟨congrArg (fun z : Int => Outcome.returned (some (Value.int (iZ z)))) (show (mlen false mo) = (mlen (leap yy) mo) from by unfold mlen; simp [*]), ht⟩) (fun q h => by cases h) dX3_length_24
  · refine lv_lload_n hx hb dX3_length_5 rfl (lv_at hl 0 rfl) ?_
    refine kc0 (fun _ q => q) (va_runS (As := [.long (lZ (yy))]) (rest := []) ⟨hx, hb, hml, hown, hts⟩ (c_X3_isLeapYear l _ (yy) (by omega)) (va_cwS 1 hts (kg_S mw1049 mw1050 mw47 rfl mw1051) rfl rfl rfl hdS_X3_isLeapYear ⟨Nat.le_of_ble_eq_true rfl, Nat.le_of_ble_eq_true rfl⟩) ⟨fun a U g mk q => q, fun U hU hW => ⟨rfl, hU⟩⟩ rfl rfl hl.1 rfl (lv_room (Nat.le_of_ble_eq_true rfl)) dX3_length_6 ⟨Nat.le_of_ble_eq_true rfl, Nat.le_of_ble_eq_true rfl⟩) ?_
    refine kz_ifb_eq (tgt := 17) hx hb  dX3_length_9 (by decide) (fun c_2 => ?_) (fun c_2 => ?_)
    · refine va_gets (v := .ref (k 3)) hx hb hM.2.1.2.2.2.2.2.1 (kSN hS hAN) hown (hts _ (List.mem_cons_of_mem _ mw1055)) (fun _ h9 => h9) dX3_length_17 ?_
      refine lv_iload_n hx hb dX3_length_20 rfl (lv_at hl 1 rfl) ?_
      refine lv_iconst (v := iZ 1) hx hb dX3_length_21 rfl ?_
      refine kz_isub hx hb dX3_length_22 ?_
      refine kz_ti (v := mlen false mo) hx hb hM.2.1.2.2.2.2.2.2.1 (kSN hS hAN) (by omega) (by decide) (by show Value.int (iZ (mlen false ((((mo - 1).toNat : Nat) : Int) + 1))) = _; rw [show (((mo - 1).toNat : Nat) : Int) + 1 = mo from by omega]) dX3_length_23 ?_
      exact W.iret (v := iZ (mlen false mo)) hx hb hr (fun t ht hW => ⟨congrArg (fun z : Int => Outcome.returned (some (Value.int (iZ z)))) (show (mlen false mo) = (mlen (leap yy) mo) from by unfold mlen; simp [*]), ht⟩) (fun q h => by cases h) dX3_length_24
    · refine lv_bipush (v := iZ 29) hx hb dX3_length_12 rfl ?_
      refine lv_goto (tgt := 24) hx hb dX3_length_14 (by decide) ?_
      exact W.iret (v := iZ 29) hx hb hr (fun t ht hW => ⟨congrArg (fun z : Int => Outcome.returned (some (Value.int (iZ z)))) (show 29 = (mlen (leap yy) mo) from by unfold mlen; simp [*]), ht⟩) (fun q h => by cases h) dX3_length_24

abbrev ww_X3_place : List Cond := .code yX3_place cX3_place 5 (some .int) :: gT
set_option maxHeartbeats 4000000 in
set_option maxRecDepth 100000 in
theorem c_X3_place (l : Launch) (dC : Nat → ClassId) (dI : Nat → Nat → Nat) (dA : Nat → ClassId) (k : Nat → Nat) (H0 : Heap)  (yy : Int) (mo : Int) (dd : Int)  (h0 : -2147483648 ≤ yy ∧ yy < 2147483648) (h1 : 1 ≤ mo ∧ mo ≤ 12) : Met l yX3_place ww_X3_place ({ frames := 3, cells := 0, slots := 0, locals := 65 }) (va_Pc [.int (iZ yy), .int (iZ mo), .int (iZ dd)] (fun U => U.heap = H0 ∧ kM dC dI dA k U)) (kQ0 (some (.int (iZ (dd + ahead (leap yy) mo)))) H0) 0 0 kN := by
  refine Met.ofW (cc := cX3_place) (maxL := 5) (ret := (some .int)) (by decide) rfl ?_
  intro p e s m args below meth c s₁ B hml hv
  obtain ⟨rfl, hH, hM⟩ := hv
  subst hH
  have hS : va_S (kN0 k) s.heap s.heap [] := va_S.rf
  have hAN : ∀ a, kN0 k a → k 0 ≤ a := fun a h => h
  have hx := B.exec
  have hb := B.bytes
  have hr := B.returns
  have hts := atoms_spec (ws := ww_X3_place) B.pre
  have hown : s.vm.findClass RX3 = some m.cls := findClass_of_methodNamed B.named
  have hlocks := B.notSynchronized
  have hl := lv_entry ([.int (iZ yy), .int (iZ mo), .int (iZ dd)]) (n := 5) (Nat.le_of_ble_eq_true rfl)
  rw [lg_entry_eq]
  generalize (lg_sl ([.int (iZ yy), .int (iZ mo), .int (iZ dd)]) ++ List.replicate (5 - (lg_sl ([.int (iZ yy), .int (iZ mo), .int (iZ dd)])).length) Slot.unset).toArray = ls at hl ⊢
  have hl : lv_has ls 5 [(0, .int (iZ yy)), (1, .int (iZ mo)), (2, .int (iZ dd))] := hl
  refine lv_iload_n hx hb dX3_place_0 rfl (lv_at hl 2 rfl) ?_
  refine lv_istore_n (lv' := [(3, .int (iZ dd)), (0, .int (iZ yy)), (1, .int (iZ mo)), (2, .int (iZ dd))]) hx hb dX3_place_1 rfl hl (by decide) rfl (fun ls hl => ?_)
  refine lv_iconst (v := iZ 1) hx hb dX3_place_2 rfl ?_
  refine lv_istore (lv' := [(4, .int (iZ 1)), (3, .int (iZ dd)), (0, .int (iZ yy)), (1, .int (iZ mo)), (2, .int (iZ dd))]) hx hb dX3_place_3 hl (by decide) rfl (fun ls hl => ?_)
  refine k_loop (W := fun ls => W p l e _ s m _ below meth c s.heap [] 0 0 _ (F0 m 5 ls [])) (I := fun (kk : Nat) ls => lv_has ls 5 [(3, .int (iZ (plA dd (leap yy) kk))), (4, .int (iZ (((kk : Nat) : Int) + 1))), (0, .int (iZ yy)), (1, .int (iZ mo)), (2, .int (iZ dd))]) ((mo - 1).toNat) 0 (Nat.zero_le _) ((lv_sub hl [1, 0, 2, 3, 4] rfl)) (fun ls hl => ?_) (fun kk ls hk hl ih => ?_)
  · refine lv_iload hx hb dX3_place_5 (lv_at hl 1 rfl) ?_
    refine lv_iload_n hx hb dX3_place_7 rfl (lv_at hl 3 rfl) ?_
    refine kz_icmp_ge (tgt := 27) hx hb (by omega) (by omega) dX3_place_8 (by decide) (fun c_1 => ?_) (fun c_1 => absurd c_1 (by omega))
    refine lv_iload_n hx hb dX3_place_27 rfl (lv_at hl 0 rfl) ?_
    exact W.iret (v := iZ (plA dd (leap yy) (((mo - 1).toNat)))) hx hb hr (fun t ht hW => ⟨congrArg (fun z : Int => Outcome.returned (some (Value.int (iZ z)))) (show (plA dd (leap yy) (((mo - 1).toNat))) = (dd + ahead (leap yy) mo) from by exact plA_eq _ _ _), ht⟩) (fun q h => by cases h) dX3_place_28
  · refine lv_iload hx hb dX3_place_5 (lv_at hl 1 rfl) ?_
    refine lv_iload_n hx hb dX3_place_7 rfl (lv_at hl 3 rfl) ?_
    refine kz_icmp_ge (tgt := 27) hx hb (by omega) (by omega) dX3_place_8 (by decide) (fun c_2 => absurd c_2 (by omega)) (fun c_2 => ?_)
    refine lv_iload_n hx hb dX3_place_11 rfl (lv_at hl 0 rfl) ?_
    refine lv_iload_n hx hb dX3_place_12 rfl (lv_at hl 2 rfl) ?_
    refine kz_i2l hx hb (by omega) dX3_place_13 ?_
    refine lv_iload hx hb dX3_place_14 (lv_at hl 1 rfl) ?_
    refine kc0 (fun _ q => q) (va_runS (As := [.long (lZ (yy)), .int (iZ (((kk : Nat) : Int) + 1))]) (rest := [.int (iZ (plA dd (leap yy) kk))]) ⟨hx, hb, hml, hown, hts⟩ (c_X3_length l dC dI dA k _ (yy) ((((kk : Nat) : Int) + 1)) (by omega) (by omega)) (va_cwS 2 hts (kg_S mw1046 mw1047 mw47 rfl mw1048) rfl rfl rfl hdS_X3_length ⟨Nat.le_of_ble_eq_true rfl, Nat.le_of_ble_eq_true rfl⟩) ⟨fun a U g mk q => ⟨q.1, q.2.1, kM_call q.2.2⟩, fun U hU hW => ⟨rfl, hU, kM_kept hM hS hAN hU hW⟩⟩ rfl rfl hl.1 rfl (lv_room (Nat.le_of_ble_eq_true rfl)) dX3_place_16 ⟨Nat.le_of_ble_eq_true rfl, Nat.le_of_ble_eq_true rfl⟩) ?_
    refine kz_iadd hx hb dX3_place_19 ?_
    refine lv_istore_n (lv' := [(3, .int (iZ ((plA dd (leap yy) kk) + (mlen (leap ((yy))) (((((kk : Nat) : Int) + 1))))))), (4, .int (iZ (((kk : Nat) : Int) + 1))), (0, .int (iZ yy)), (1, .int (iZ mo)), (2, .int (iZ dd))]) hx hb dX3_place_20 rfl hl (by decide) rfl (fun ls hl => ?_)
    refine lv_iinc (v := iZ ((((kk : Nat) : Int) + 1) + 1)) (lv' := [(4, .int (iZ ((((kk : Nat) : Int) + 1) + 1))), (3, .int (iZ ((plA dd (leap yy) kk) + (mlen (leap ((yy))) (((((kk : Nat) : Int) + 1))))))), (0, .int (iZ yy)), (1, .int (iZ mo)), (2, .int (iZ dd))]) hx hb dX3_place_21 hl (k := 1) rfl (iZ_add _ _) (by decide) rfl (fun ls hl => ?_)
    refine lv_goto (tgt := 5) hx hb dX3_place_24 (by decide) ?_
    exact ih ls (by have h9 := lv_sub hl [1, 0, 2, 3, 4] rfl; rw [show ((kk : Nat) : Int) + 1 + 1 = ((kk + 1 : Nat) : Int) + 1 from by omega, show plA dd (leap yy) kk + mlen (leap yy) ((kk : Nat) + 1) = plA dd (leap yy) (kk + 1) from rfl] at h9; exact h9)

abbrev ww_X3_countOf : List Cond := .code yX3_countOf cX3_countOf 1 (some .long) :: gT
set_option maxHeartbeats 4000000 in
set_option maxRecDepth 100000 in
theorem c_X3_countOf (l : Launch) (dC : Nat → ClassId) (dI : Nat → Nat → Nat) (dA : Nat → ClassId) (k : Nat → Nat) (H0 : Heap) (ws : va_W) (hP : va_P (dC, dI) vwCl ws H0) (q_ar ar : Nat) (f_ar : Nat → Int32) (ar0 : Int) (ar1 : Int) (e_ar : ws[q_ar]? = some (ar, .inl (dA 0, 2, .inl f_ar))) (e_ar0 : f_ar 0 = iZ ar0) (e_ar1 : f_ar 1 = iZ ar1) (h0 : -2147483648 ≤ ar0 ∧ ar0 < 2147483648) (h1 : -2147483648 ≤ ar1 ∧ ar1 < 2147483648) : Met l yX3_countOf ww_X3_countOf ({ frames := 0, cells := 0, slots := 0, locals := 0 }) (va_Pc [.ref ar] (fun U => U.heap = H0 ∧ kM dC dI dA k U)) (kQ0 (some (.long (lZ (cnt ar0 ar1)))) H0) 0 0 kN := by
  refine Met.ofW (cc := cX3_countOf) (maxL := 1) (ret := (some .long)) (by decide) rfl ?_
  intro p e s m args below meth c s₁ B hml hv
  obtain ⟨rfl, hH, hM⟩ := hv
  subst hH
  have hS : va_S (kN0 k) s.heap s.heap [] := va_S.rf
  have hAN : ∀ a, kN0 k a → k 0 ≤ a := fun a h => h
  have hx := B.exec
  have hb := B.bytes
  have hr := B.returns
  have hts := atoms_spec (ws := ww_X3_countOf) B.pre
  have hown : s.vm.findClass RX3 = some m.cls := findClass_of_methodNamed B.named
  have hlocks := B.notSynchronized
  have hl := lv_entry ([.ref ar]) (n := 1) (Nat.le_of_ble_eq_true rfl)
  rw [lg_entry_eq]
  generalize (lg_sl ([.ref ar]) ++ List.replicate (1 - (lg_sl ([.ref ar])).length) Slot.unset).toArray = ls at hl ⊢
  have hl : lv_has ls 1 [(0, .ref ar)] := hl
  refine lv_ldc2 (v := lZ 12) hx hb hown (hts _ (List.mem_cons_of_mem _ mw1036)) dX3_countOf_0 ?_
  refine lv_aload_n hx hb dX3_countOf_3 rfl (lv_at hl 0 rfl) ?_
  refine lv_iconst (v := iZ 0) hx hb dX3_countOf_4 rfl ?_
  refine kz_iald (v := ar0) hx hb hM.1 hP q_ar 0 e_ar rfl (by omega) (by decide) e_ar0 dX3_countOf_5 ?_
  refine kz_i2l hx hb (by omega) dX3_countOf_6 ?_
  refine kz_lmul hx hb dX3_countOf_7 ?_
  refine lv_aload_n hx hb dX3_countOf_8 rfl (lv_at hl 0 rfl) ?_
  refine lv_iconst (v := iZ 1) hx hb dX3_countOf_9 rfl ?_
  refine kz_iald (v := ar1) hx hb hM.1 hP q_ar 0 e_ar rfl (by omega) (by decide) e_ar1 dX3_countOf_10 ?_
  refine kz_i2l hx hb (by omega) dX3_countOf_11 ?_
  refine kz_ladd hx hb dX3_countOf_12 ?_
  refine lv_lconst (v := lZ 1) hx hb dX3_countOf_13 rfl ?_
  refine kz_lsub hx hb dX3_countOf_14 ?_
  exact W.lret (v := lZ (((12 * ar0) + ar1) - 1)) hx hb hr (fun t ht hW => ⟨congrArg (fun z : Int => Outcome.returned (some (Value.long (lZ z)))) (show (((12 * ar0) + ar1) - 1) = (cnt ar0 ar1) from by rfl), ht⟩) (fun q h => by cases h) dX3_countOf_15

abbrev ww_X3_numberOf : List Cond := .code yX3_numberOf cX3_numberOf 5 (some .long) :: gT
set_option maxHeartbeats 4000000 in
set_option maxRecDepth 100000 in
theorem c_X3_numberOf (l : Launch) (dC : Nat → ClassId) (dI : Nat → Nat → Nat) (dA : Nat → ClassId) (k : Nat → Nat) (H0 : Heap) (ws : va_W) (hP : va_P (dC, dI) vwCl ws H0) (q_ar ar : Nat) (f_ar : Nat → Int32) (ar0 : Int) (ar1 : Int) (ar2 : Int) (e_ar : ws[q_ar]? = some (ar, .inl (dA 0, 3, .inl f_ar))) (e_ar0 : f_ar 0 = iZ ar0) (e_ar1 : f_ar 1 = iZ ar1) (e_ar2 : f_ar 2 = iZ ar2) (h0 : -1000000000 ≤ ar0 ∧ ar0 ≤ 1000000000) (h1 : 1 ≤ ar1 ∧ ar1 ≤ 12) (h2 : -400 ≤ ar2 ∧ ar2 ≤ 400) : Met l yX3_numberOf ww_X3_numberOf ({ frames := 4, cells := 0, slots := 0, locals := 89 }) (va_Pc [.ref ar] (fun U => U.heap = H0 ∧ kM dC dI dA k U)) (kQ0 (some (.long (lZ (dnum ar0 ar1 ar2)))) H0) 0 0 kN := by
  refine Met.ofW (cc := cX3_numberOf) (maxL := 5) (ret := (some .long)) (by decide) rfl ?_
  intro p e s m args below meth c s₁ B hml hv
  obtain ⟨rfl, hH, hM⟩ := hv
  subst hH
  have hS : va_S (kN0 k) s.heap s.heap [] := va_S.rf
  have hAN : ∀ a, kN0 k a → k 0 ≤ a := fun a h => h
  have hx := B.exec
  have hb := B.bytes
  have hr := B.returns
  have hts := atoms_spec (ws := ww_X3_numberOf) B.pre
  have hown : s.vm.findClass RX3 = some m.cls := findClass_of_methodNamed B.named
  have hlocks := B.notSynchronized
  have hl := lv_entry ([.ref ar]) (n := 5) (Nat.le_of_ble_eq_true rfl)
  rw [lg_entry_eq]
  generalize (lg_sl ([.ref ar]) ++ List.replicate (5 - (lg_sl ([.ref ar])).length) Slot.unset).toArray = ls at hl ⊢
  have hl : lv_has ls 5 [(0, .ref ar)] := hl
  refine lv_aload_n hx hb dX3_numberOf_0 rfl (lv_at hl 0 rfl) ?_
  refine lv_iconst (v := iZ 0) hx hb dX3_numberOf_1 rfl ?_
  refine kz_iald (v := ar0) hx hb hM.1 hP q_ar 0 e_ar rfl (by omega) (by decide) e_ar0 dX3_numberOf_2 ?_
  refine kz_i2l hx hb (by first | omega | (have := ahead_rng (leap ar0) (m := ar1) (by omega); omega)) dX3_numberOf_3 ?_
  refine lv_lstore_n (lv' := [(1, .long (lZ (ar0))), (0, .ref ar)]) hx hb dX3_numberOf_4 rfl hl (by decide) rfl (fun ls hl => ?_)
  refine lv_lload_n hx hb dX3_numberOf_5 rfl (lv_at hl 0 rfl) ?_
  refine lv_ldc2 (v := lZ 3) hx hb hown (hts _ (List.mem_cons_of_mem _ mw1024)) dX3_numberOf_6 ?_
  refine kz_ladd hx hb dX3_numberOf_9 ?_
  refine lv_iconst (v := iZ 4) hx hb dX3_numberOf_10 rfl ?_
  refine kc0 (fun _ q => q) (va_runS (As := [.long (lZ (ar0 + 3)), .int (iZ 4)]) (rest := []) ⟨hx, hb, hml, hown, hts⟩ (c_X3_floor l _ ((ar0 + 3)) (4) (by first | omega | (have := ahead_rng (leap ar0) (m := ar1) (by omega); omega)) (by first | omega | (have := ahead_rng (leap ar0) (m := ar1) (by omega); omega))) (va_cwS 2 hts (kg_S mw1079 mw1080 mw47 rfl mw1081) rfl rfl rfl hdS_X3_floor ⟨Nat.le_of_ble_eq_true rfl, Nat.le_of_ble_eq_true rfl⟩) ⟨fun a U g mk q => q, fun U hU hW => ⟨rfl, hU⟩⟩ rfl rfl hl.1 rfl (lv_room (Nat.le_of_ble_eq_true rfl)) dX3_numberOf_11 ⟨Nat.le_of_ble_eq_true rfl, Nat.le_of_ble_eq_true rfl⟩) ?_
  refine lv_lload_n hx hb dX3_numberOf_14 rfl (lv_at hl 0 rfl) ?_
  refine lv_ldc2 (v := lZ 99) hx hb hown (hts _ (List.mem_cons_of_mem _ mw1220)) dX3_numberOf_15 ?_
  refine kz_ladd hx hb dX3_numberOf_18 ?_
  refine lv_bipush (v := iZ 100) hx hb dX3_numberOf_19 rfl ?_
  refine kc0 (fun _ q => q) (va_runS (As := [.long (lZ (ar0 + 99)), .int (iZ 100)]) (rest := [.long (lZ ((((ar0 + 3))) / ((4))))]) ⟨hx, hb, hml, hown, hts⟩ (c_X3_floor l _ ((ar0 + 99)) (100) (by first | omega | (have := ahead_rng (leap ar0) (m := ar1) (by omega); omega)) (by first | omega | (have := ahead_rng (leap ar0) (m := ar1) (by omega); omega))) (va_cwS 2 hts (kg_S mw1079 mw1080 mw47 rfl mw1081) rfl rfl rfl hdS_X3_floor ⟨Nat.le_of_ble_eq_true rfl, Nat.le_of_ble_eq_true rfl⟩) ⟨fun a U g mk q => q, fun U hU hW => ⟨rfl, hU⟩⟩ rfl rfl hl.1 rfl (lv_room (Nat.le_of_ble_eq_true rfl)) dX3_numberOf_21 ⟨Nat.le_of_ble_eq_true rfl, Nat.le_of_ble_eq_true rfl⟩) ?_
  refine kz_lsub hx hb dX3_numberOf_24 ?_
  refine lv_lload_n hx hb dX3_numberOf_25 rfl (lv_at hl 0 rfl) ?_
  refine lv_ldc2 (v := lZ 399) hx hb hown (hts _ (List.mem_cons_of_mem _ mw1221)) dX3_numberOf_26 ?_
  refine kz_ladd hx hb dX3_numberOf_29 ?_
  refine lv_sipush (v := iZ 400) hx hb dX3_numberOf_30 rfl ?_
  refine kc0 (fun _ q => q) (va_runS (As := [.long (lZ (ar0 + 399)), .int (iZ 400)]) (rest := [.long (lZ (((((ar0 + 3))) / ((4))) - ((((ar0 + 99))) / ((100)))))]) ⟨hx, hb, hml, hown, hts⟩ (c_X3_floor l _ ((ar0 + 399)) (400) (by first | omega | (have := ahead_rng (leap ar0) (m := ar1) (by omega); omega)) (by first | omega | (have := ahead_rng (leap ar0) (m := ar1) (by omega); omega))) (va_cwS 2 hts (kg_S mw1079 mw1080 mw47 rfl mw1081) rfl rfl rfl hdS_X3_floor ⟨Nat.le_of_ble_eq_true rfl, Nat.le_of_ble_eq_true rfl⟩) ⟨fun a U g mk q => q, fun U hU hW => ⟨rfl, hU⟩⟩ rfl rfl hl.1 rfl (lv_room (Nat.le_of_ble_eq_true rfl)) dX3_numberOf_33 ⟨Nat.le_of_ble_eq_true rfl, Nat.le_of_ble_eq_true rfl⟩) ?_
  refine kz_ladd hx hb dX3_numberOf_36 ?_
  refine lv_lstore_n (lv' := [(3, .long (lZ ((((((ar0 + 3))) / ((4))) - ((((ar0 + 99))) / ((100)))) + ((((ar0 + 399))) / ((400)))))), (1, .long (lZ (ar0))), (0, .ref ar)]) hx hb dX3_numberOf_37 rfl hl (by decide) rfl (fun ls hl => ?_)
  refine lv_ldc2 (v := lZ 365) hx hb hown (hts _ (List.mem_cons_of_mem _ mw1222)) dX3_numberOf_38 ?_
  refine lv_lload_n hx hb dX3_numberOf_41 rfl (lv_at hl 1 rfl) ?_
  refine kz_lmul hx hb dX3_numberOf_42 ?_
  refine lv_lload_n hx hb dX3_numberOf_43 rfl (lv_at hl 0 rfl) ?_
  refine kz_ladd hx hb dX3_numberOf_44 ?_
  refine lv_ldc2 (v := lZ 719528) hx hb hown (hts _ (List.mem_cons_of_mem _ mw1223)) dX3_numberOf_45 ?_
  refine kz_lsub hx hb dX3_numberOf_48 ?_
  refine lv_aload_n hx hb dX3_numberOf_49 rfl (lv_at hl 2 rfl) ?_
  refine lv_iconst (v := iZ 0) hx hb dX3_numberOf_50 rfl ?_
  refine kz_iald (v := ar0) hx hb hM.1 hP q_ar 0 e_ar rfl (by omega) (by decide) e_ar0 dX3_numberOf_51 ?_
  refine lv_aload_n hx hb dX3_numberOf_52 rfl (lv_at hl 2 rfl) ?_
  refine lv_iconst (v := iZ 1) hx hb dX3_numberOf_53 rfl ?_
  refine kz_iald (v := ar1) hx hb hM.1 hP q_ar 0 e_ar rfl (by omega) (by decide) e_ar1 dX3_numberOf_54 ?_
  refine lv_aload_n hx hb dX3_numberOf_55 rfl (lv_at hl 2 rfl) ?_
  refine lv_iconst (v := iZ 2) hx hb dX3_numberOf_56 rfl ?_
  refine kz_iald (v := ar2) hx hb hM.1 hP q_ar 0 e_ar rfl (by omega) (by decide) e_ar2 dX3_numberOf_57 ?_
  refine kc0 (fun _ q => q) (va_runS (As := [.int (iZ ar0), .int (iZ ar1), .int (iZ ar2)]) (rest := [.long (lZ (((365 * ar0) + ((((((ar0 + 3))) / ((4))) - ((((ar0 + 99))) / ((100)))) + ((((ar0 + 399))) / ((400))))) - 719528))]) ⟨hx, hb, hml, hown, hts⟩ (c_X3_place l dC dI dA k _ (ar0) (ar1) (ar2) (by first | omega | (have := ahead_rng (leap ar0) (m := ar1) (by omega); omega)) (by first | omega | (have := ahead_rng (leap ar0) (m := ar1) (by omega); omega))) (va_cwS 3 hts (kg_S mw1224 mw1225 mw47 rfl mw1226) rfl rfl rfl hdS_X3_place ⟨Nat.le_of_ble_eq_true rfl, Nat.le_of_ble_eq_true rfl⟩) ⟨fun a U g mk q => ⟨q.1, q.2.1, kM_call q.2.2⟩, fun U hU hW => ⟨rfl, hU, kM_kept hM hS hAN hU hW⟩⟩ rfl rfl hl.1 rfl (lv_room (Nat.le_of_ble_eq_true rfl)) dX3_numberOf_58 ⟨Nat.le_of_ble_eq_true rfl, Nat.le_of_ble_eq_true rfl⟩) ?_
  refine kz_i2l hx hb (by first | omega | (have := ahead_rng (leap ar0) (m := ar1) (by omega); omega)) dX3_numberOf_61 ?_
  refine kz_ladd hx hb dX3_numberOf_62 ?_
  refine lv_lconst (v := lZ 1) hx hb dX3_numberOf_63 rfl ?_
  refine kz_lsub hx hb dX3_numberOf_64 ?_
  exact W.lret (v := lZ (((((365 * ar0) + ((((((ar0 + 3))) / ((4))) - ((((ar0 + 99))) / ((100)))) + ((((ar0 + 399))) / ((400))))) - 719528) + ((((ar2)) + ahead (leap ((ar0))) ((ar1))))) - 1)) hx hb hr (fun t ht hW => ⟨congrArg (fun z : Int => Outcome.returned (some (Value.long (lZ z)))) (show (((((365 * ar0) + ((((((ar0 + 3))) / ((4))) - ((((ar0 + 99))) / ((100)))) + ((((ar0 + 399))) / ((400))))) - 719528) + ((((ar2)) + ahead (leap ((ar0))) ((ar1))))) - 1) = (dnum ar0 ar1 ar2) from by unfold dnum; omega), ht⟩) (fun q h => by cases h) dX3_numberOf_65

abbrev ww_X3_weekday : List Cond := .code yX3_weekday cX3_weekday 1 (some .int) :: gT
set_option maxHeartbeats 4000000 in
set_option maxRecDepth 100000 in
theorem c_X3_weekday (l : Launch) (dC : Nat → ClassId) (dI : Nat → Nat → Nat) (dA : Nat → ClassId) (k : Nat → Nat) (H0 : Heap) (ws : va_W) (hP : va_P (dC, dI) vwCl ws H0) (q_ar ar : Nat) (f_ar : Nat → Int32) (ar0 : Int) (ar1 : Int) (ar2 : Int) (e_ar : ws[q_ar]? = some (ar, .inl (dA 0, 3, .inl f_ar))) (e_ar0 : f_ar 0 = iZ ar0) (e_ar1 : f_ar 1 = iZ ar1) (e_ar2 : f_ar 2 = iZ ar2) (h0 : -1000000000 ≤ ar0 ∧ ar0 ≤ 1000000000) (h1 : 1 ≤ ar1 ∧ ar1 ≤ 12) (h2 : -400 ≤ ar2 ∧ ar2 ≤ 400) : Met l yX3_weekday ww_X3_weekday ({ frames := 5, cells := 0, slots := 0, locals := 113 }) (va_Pc [.ref ar] (fun U => U.heap = H0 ∧ kM dC dI dA k U)) (kQ0 (some (.int (iZ (1 + (dnum ar0 ar1 ar2 + 3) % 7)))) H0) 0 0 kN := by
  refine Met.ofW (cc := cX3_weekday) (maxL := 1) (ret := (some .int)) (by decide) rfl ?_
  intro p e s m args below meth c s₁ B hml hv
  obtain ⟨rfl, hH, hM⟩ := hv
  subst hH
  have hS : va_S (kN0 k) s.heap s.heap [] := va_S.rf
  have hAN : ∀ a, kN0 k a → k 0 ≤ a := fun a h => h
  have hx := B.exec
  have hb := B.bytes
  have hr := B.returns
  have hts := atoms_spec (ws := ww_X3_weekday) B.pre
  have hown : s.vm.findClass RX3 = some m.cls := findClass_of_methodNamed B.named
  have hlocks := B.notSynchronized
  have hl := lv_entry ([.ref ar]) (n := 1) (Nat.le_of_ble_eq_true rfl)
  rw [lg_entry_eq]
  generalize (lg_sl ([.ref ar]) ++ List.replicate (1 - (lg_sl ([.ref ar])).length) Slot.unset).toArray = ls at hl ⊢
  have hl : lv_has ls 1 [(0, .ref ar)] := hl
  refine lv_iconst (v := iZ 1) hx hb dX3_weekday_0 rfl ?_
  refine lv_aload_n hx hb dX3_weekday_1 rfl (lv_at hl 0 rfl) ?_
  refine kc0 (fun _ q => q) (va_runS (As := [.ref ar]) (rest := [.int (iZ 1)]) ⟨hx, hb, hml, hown, hts⟩ (c_X3_numberOf l dC dI dA k _ _ hP q_ar ar _ ar0 ar1 ar2 e_ar e_ar0 e_ar1 e_ar2 (by first | omega | (have := dnum_rng (y := ar0) (m := ar1) (d := ar2) (by omega) (by omega) (by omega); omega)) (by first | omega | (have := dnum_rng (y := ar0) (m := ar1) (d := ar2) (by omega) (by omega) (by omega); omega)) (by first | omega | (have := dnum_rng (y := ar0) (m := ar1) (d := ar2) (by omega) (by omega) (by omega); omega))) (va_cwS 1 hts (kg_S mw1217 mw1218 mw47 rfl mw1219) rfl rfl rfl hdS_X3_numberOf ⟨Nat.le_of_ble_eq_true rfl, Nat.le_of_ble_eq_true rfl⟩) ⟨fun a U g mk q => ⟨q.1, q.2.1, kM_call q.2.2⟩, fun U hU hW => ⟨rfl, hU, kM_kept hM hS hAN hU hW⟩⟩ rfl rfl hl.1 rfl (lv_room (Nat.le_of_ble_eq_true rfl)) dX3_weekday_2 ⟨Nat.le_of_ble_eq_true rfl, Nat.le_of_ble_eq_true rfl⟩) ?_
  refine lv_ldc2 (v := lZ 3) hx hb hown (hts _ (List.mem_cons_of_mem _ mw1024)) dX3_weekday_5 ?_
  refine kz_ladd hx hb dX3_weekday_8 ?_
  refine lv_bipush (v := iZ 7) hx hb dX3_weekday_9 rfl ?_
  refine kc0 (fun _ q => q) (va_runS (As := [.long (lZ ((dnum ar0 ar1 ar2) + 3)), .int (iZ 7)]) (rest := [.int (iZ 1)]) ⟨hx, hb, hml, hown, hts⟩ (c_X3_rest l _ (((dnum ar0 ar1 ar2) + 3)) (7) (by first | omega | (have := dnum_rng (y := ar0) (m := ar1) (d := ar2) (by omega) (by omega) (by omega); omega)) (by first | omega | (have := dnum_rng (y := ar0) (m := ar1) (d := ar2) (by omega) (by omega) (by omega); omega))) (va_cwS 2 hts (kg_S mw1063 mw1064 mw47 rfl mw1065) rfl rfl rfl hdS_X3_rest ⟨Nat.le_of_ble_eq_true rfl, Nat.le_of_ble_eq_true rfl⟩) ⟨fun a U g mk q => q, fun U hU hW => ⟨rfl, hU⟩⟩ rfl rfl hl.1 rfl (lv_room (Nat.le_of_ble_eq_true rfl)) dX3_weekday_11 ⟨Nat.le_of_ble_eq_true rfl, Nat.le_of_ble_eq_true rfl⟩) ?_
  refine kz_iadd hx hb dX3_weekday_14 ?_
  exact W.iret (v := iZ (1 + (((((dnum ar0 ar1 ar2) + 3))) % ((7))))) hx hb hr (fun t ht hW => ⟨congrArg (fun z : Int => Outcome.returned (some (Value.int (iZ z)))) (show (1 + (((((dnum ar0 ar1 ar2) + 3))) % ((7)))) = (1 + (dnum ar0 ar1 ar2 + 3) % 7) from by rfl), ht⟩) (fun q h => by cases h) dX3_weekday_15

abbrev ww_X3_isEach : List Cond := .code yX3_isEach cX3_isEach 1 (some .boolean) :: gT
set_option maxHeartbeats 4000000 in
set_option maxRecDepth 100000 in
theorem c_X3_isEach (l : Launch) (dC : Nat → ClassId) (dI : Nat → Nat → Nat) (dA : Nat → ClassId) (k : Nat → Nat) (H0 : Heap) (ws : va_W) (hP : va_P (dC, dI) vwCl ws H0) (q_ar ar : Nat) (f_ar : Nat → Int32) (ar0 : Int) (ar1 : Int) (e_ar : ws[q_ar]? = some (ar, .inl (dA 0, 2, .inl f_ar))) (e_ar0 : f_ar 0 = iZ ar0) (e_ar1 : f_ar 1 = iZ ar1) (h0 : -2147483648 ≤ ar0 ∧ ar0 < 2147483648) (h1 : -2147483648 ≤ ar1 ∧ ar1 < 2147483648) : Met l yX3_isEach ww_X3_isEach ({ frames := 0, cells := 0, slots := 0, locals := 0 }) (va_Pc [.ref ar] (fun U => U.heap = H0 ∧ kM dC dI dA k U)) (kQ0 (some (.int (iZ (bZ (decide (ar0 ≠ 2 ∨ ar1 ≠ 29)))))) H0) 0 0 kN := by
  refine Met.ofW (cc := cX3_isEach) (maxL := 1) (ret := (some .boolean)) (by decide) rfl ?_
  intro p e s m args below meth c s₁ B hml hv
  obtain ⟨rfl, hH, hM⟩ := hv
  subst hH
  have hS : va_S (kN0 k) s.heap s.heap [] := va_S.rf
  have hAN : ∀ a, kN0 k a → k 0 ≤ a := fun a h => h
  have hx := B.exec
  have hb := B.bytes
  have hr := B.returns
  have hts := atoms_spec (ws := ww_X3_isEach) B.pre
  have hown : s.vm.findClass RX3 = some m.cls := findClass_of_methodNamed B.named
  have hlocks := B.notSynchronized
  have hl := lv_entry ([.ref ar]) (n := 1) (Nat.le_of_ble_eq_true rfl)
  rw [lg_entry_eq]
  generalize (lg_sl ([.ref ar]) ++ List.replicate (1 - (lg_sl ([.ref ar])).length) Slot.unset).toArray = ls at hl ⊢
  have hl : lv_has ls 1 [(0, .ref ar)] := hl
  refine lv_aload_n hx hb dX3_isEach_0 rfl (lv_at hl 0 rfl) ?_
  refine lv_iconst (v := iZ 0) hx hb dX3_isEach_1 rfl ?_
  refine kz_iald (v := ar0) hx hb hM.1 hP q_ar 0 e_ar rfl (by omega) (by decide) e_ar0 dX3_isEach_2 ?_
  refine lv_iconst (v := iZ 2) hx hb dX3_isEach_3 rfl ?_
  refine kz_icmp_ne (tgt := 15) hx hb (by omega) (by omega) dX3_isEach_4 (by decide) (fun c_1 => ?_) (fun c_1 => ?_)
  · refine lv_iconst (v := iZ 1) hx hb dX3_isEach_15 rfl ?_
    refine lv_goto (tgt := 20) hx hb dX3_isEach_16 (by decide) ?_
    exact W.zret (v := iZ 1) (ty := .boolean) hx hb hr rfl (fun t ht hW => ⟨congrArg (fun z : Int => Outcome.returned (some (Value.int (iZ z)))) (show 1 = (bZ (decide (ar0 ≠ 2 ∨ ar1 ≠ 29))) from by exact bZ_d1 (by omega)), ht⟩) (fun q h => by cases h) dX3_isEach_20
  · refine lv_aload_n hx hb dX3_isEach_7 rfl (lv_at hl 0 rfl) ?_
    refine lv_iconst (v := iZ 1) hx hb dX3_isEach_8 rfl ?_
    refine kz_iald (v := ar1) hx hb hM.1 hP q_ar 0 e_ar rfl (by omega) (by decide) e_ar1 dX3_isEach_9 ?_
    refine lv_bipush (v := iZ 29) hx hb dX3_isEach_10 rfl ?_
    refine kz_icmp_eq (tgt := 19) hx hb (by omega) (by omega) dX3_isEach_12 (by decide) (fun c_2 => ?_) (fun c_2 => ?_)
    · refine lv_iconst (v := iZ 0) hx hb dX3_isEach_19 rfl ?_
      exact W.zret (v := iZ 0) (ty := .boolean) hx hb hr rfl (fun t ht hW => ⟨congrArg (fun z : Int => Outcome.returned (some (Value.int (iZ z)))) (show 0 = (bZ (decide (ar0 ≠ 2 ∨ ar1 ≠ 29))) from by exact bZ_d0 (by omega)), ht⟩) (fun q h => by cases h) dX3_isEach_20
    · refine lv_iconst (v := iZ 1) hx hb dX3_isEach_15 rfl ?_
      refine lv_goto (tgt := 20) hx hb dX3_isEach_16 (by decide) ?_
      exact W.zret (v := iZ 1) (ty := .boolean) hx hb hr rfl (fun t ht hW => ⟨congrArg (fun z : Int => Outcome.returned (some (Value.int (iZ z)))) (show 1 = (bZ (decide (ar0 ≠ 2 ∨ ar1 ≠ 29))) from by exact bZ_d1 (by omega)), ht⟩) (fun q h => by cases h) dX3_isEach_20

abbrev ww_X3_isInNow : List Cond := .code yX3_isInNow cX3_isInNow 3 (some .boolean) :: gT
set_option maxHeartbeats 4000000 in
set_option maxRecDepth 100000 in
theorem c_X3_isInNow (l : Launch) (dC : Nat → ClassId) (dI : Nat → Nat → Nat) (dA : Nat → ClassId) (k : Nat → Nat) (H0 : Heap) (ws : va_W) (hP : va_P (dC, dI) vwCl ws H0) (q_ar ar : Nat) (f_ar : Nat → Int32) (ar0 : Int) (ar1 : Int) (yy : Int) (e_ar : ws[q_ar]? = some (ar, .inl (dA 0, 2, .inl f_ar))) (e_ar0 : f_ar 0 = iZ ar0) (e_ar1 : f_ar 1 = iZ ar1) (h0 : 1 ≤ ar0 ∧ ar0 ≤ 12) (h1 : -2147483648 ≤ ar1 ∧ ar1 < 2147483648) (h2 : -9223372036854775808 ≤ yy ∧ yy < 9223372036854775808) : Met l yX3_isInNow ww_X3_isInNow ({ frames := 3, cells := 0, slots := 0, locals := 65 }) (va_Pc [.ref ar, .long (lZ (yy))] (fun U => U.heap = H0 ∧ kM dC dI dA k U)) (kQ0 (some (.int (iZ (bZ (decide (ar1 ≤ mlen (leap yy) ar0)))))) H0) 0 0 kN := by
  refine Met.ofW (cc := cX3_isInNow) (maxL := 3) (ret := (some .boolean)) (by decide) rfl ?_
  intro p e s m args below meth c s₁ B hml hv
  obtain ⟨rfl, hH, hM⟩ := hv
  subst hH
  have hS : va_S (kN0 k) s.heap s.heap [] := va_S.rf
  have hAN : ∀ a, kN0 k a → k 0 ≤ a := fun a h => h
  have hx := B.exec
  have hb := B.bytes
  have hr := B.returns
  have hts := atoms_spec (ws := ww_X3_isInNow) B.pre
  have hown : s.vm.findClass RX3 = some m.cls := findClass_of_methodNamed B.named
  have hlocks := B.notSynchronized
  have hl := lv_entry ([.ref ar, .long (lZ (yy))]) (n := 3) (Nat.le_of_ble_eq_true rfl)
  rw [lg_entry_eq]
  generalize (lg_sl ([.ref ar, .long (lZ (yy))]) ++ List.replicate (3 - (lg_sl ([.ref ar, .long (lZ (yy))])).length) Slot.unset).toArray = ls at hl ⊢
  have hl : lv_has ls 3 [(0, .ref ar), (1, .long (lZ (yy)))] := hl
  refine lv_aload_n hx hb dX3_isInNow_0 rfl (lv_at hl 0 rfl) ?_
  refine lv_iconst (v := iZ 1) hx hb dX3_isInNow_1 rfl ?_
  refine kz_iald (v := ar1) hx hb hM.1 hP q_ar 0 e_ar rfl (by omega) (by decide) e_ar1 dX3_isInNow_2 ?_
  refine lv_lload_n hx hb dX3_isInNow_3 rfl (lv_at hl 1 rfl) ?_
  refine lv_aload_n hx hb dX3_isInNow_4 rfl (lv_at hl 0 rfl) ?_
  refine lv_iconst (v := iZ 0) hx hb dX3_isInNow_5 rfl ?_
  refine kz_iald (v := ar0) hx hb hM.1 hP q_ar 0 e_ar rfl (by omega) (by decide) e_ar0 dX3_isInNow_6 ?_
  refine kc0 (fun _ q => q) (va_runS (As := [.long (lZ (yy)), .int (iZ ar0)]) (rest := [.int (iZ ar1)]) ⟨hx, hb, hml, hown, hts⟩ (c_X3_length l dC dI dA k _ (yy) (ar0) (by omega) (by omega)) (va_cwS 2 hts (kg_S mw1046 mw1047 mw47 rfl mw1048) rfl rfl rfl hdS_X3_length ⟨Nat.le_of_ble_eq_true rfl, Nat.le_of_ble_eq_true rfl⟩) ⟨fun a U g mk q => ⟨q.1, q.2.1, kM_call q.2.2⟩, fun U hU hW => ⟨rfl, hU, kM_kept hM hS hAN hU hW⟩⟩ rfl rfl hl.1 rfl (lv_room (Nat.le_of_ble_eq_true rfl)) dX3_isInNow_7 ⟨Nat.le_of_ble_eq_true rfl, Nat.le_of_ble_eq_true rfl⟩) ?_
  refine kz_icmp_gt (tgt := 17) hx hb (by first | omega | (have := mlen_rng (leap yy) ar0; omega)) (by first | omega | (have := mlen_rng (leap yy) ar0; omega)) dX3_isInNow_10 (by decide) (fun c_1 => ?_) (fun c_1 => ?_)
  · refine lv_iconst (v := iZ 0) hx hb dX3_isInNow_17 rfl ?_
    exact W.zret (v := iZ 0) (ty := .boolean) hx hb hr rfl (fun t ht hW => ⟨congrArg (fun z : Int => Outcome.returned (some (Value.int (iZ z)))) (show 0 = (bZ (decide (ar1 ≤ mlen (leap yy) ar0))) from by exact bZ_d0 (by omega)), ht⟩) (fun q h => by cases h) dX3_isInNow_18
  · refine lv_iconst (v := iZ 1) hx hb dX3_isInNow_13 rfl ?_
    refine lv_goto (tgt := 18) hx hb dX3_isInNow_14 (by decide) ?_
    exact W.zret (v := iZ 1) (ty := .boolean) hx hb hr rfl (fun t ht hW => ⟨congrArg (fun z : Int => Outcome.returned (some (Value.int (iZ z)))) (show 1 = (bZ (decide (ar1 ≤ mlen (leap yy) ar0))) from by exact bZ_d1 (by omega)), ht⟩) (fun q h => by cases h) dX3_isInNow_18

abbrev ww_X3_areSame : List Cond := .code yX3_areSame cX3_areSame 4 (some .boolean) :: gT
set_option maxHeartbeats 4000000 in
set_option maxRecDepth 100000 in
theorem c_X3_areSame (l : Launch) (dC : Nat → ClassId) (dI : Nat → Nat → Nat) (dA : Nat → ClassId) (k : Nat → Nat) (H0 : Heap) (ws : va_W) (hP : va_P (dC, dI) vwCl ws H0) (q_ar ar : Nat) (f_ar : Nat → Int32) (ar0 : Int) (ar1 : Int) (q_br br : Nat) (f_br : Nat → Int32) (br0 : Int) (br1 : Int) (e_ar : ws[q_ar]? = some (ar, .inl (dA 0, 2, .inl f_ar))) (e_ar0 : f_ar 0 = iZ ar0) (e_ar1 : f_ar 1 = iZ ar1) (e_br : ws[q_br]? = some (br, .inl (dA 0, 2, .inl f_br))) (e_br0 : f_br 0 = iZ br0) (e_br1 : f_br 1 = iZ br1) (h0 : -2147483648 ≤ ar0 ∧ ar0 < 2147483648) (h1 : -2147483648 ≤ ar1 ∧ ar1 < 2147483648) (h2 : -2147483648 ≤ br0 ∧ br0 < 2147483648) (h3 : -2147483648 ≤ br1 ∧ br1 < 2147483648) : Met l yX3_areSame ww_X3_areSame ({ frames := 0, cells := 0, slots := 0, locals := 0 }) (va_Pc [.ref ar, .ref br] (fun U => U.heap = H0 ∧ kM dC dI dA k U)) (kQ0 (some (.int (iZ (bZ (decide (ar0 = br0 ∧ ar1 = br1)))))) H0) 0 0 kN := by
  refine Met.ofW (cc := cX3_areSame) (maxL := 4) (ret := (some .boolean)) (by decide) rfl ?_
  intro p e s m args below meth c s₁ B hml hv
  obtain ⟨rfl, hH, hM⟩ := hv
  subst hH
  have hS : va_S (kN0 k) s.heap s.heap [] := va_S.rf
  have hAN : ∀ a, kN0 k a → k 0 ≤ a := fun a h => h
  have hx := B.exec
  have hb := B.bytes
  have hr := B.returns
  have hts := atoms_spec (ws := ww_X3_areSame) B.pre
  have hown : s.vm.findClass RX3 = some m.cls := findClass_of_methodNamed B.named
  have hlocks := B.notSynchronized
  have hl := lv_entry ([.ref ar, .ref br]) (n := 4) (Nat.le_of_ble_eq_true rfl)
  rw [lg_entry_eq]
  generalize (lg_sl ([.ref ar, .ref br]) ++ List.replicate (4 - (lg_sl ([.ref ar, .ref br])).length) Slot.unset).toArray = ls at hl ⊢
  have hl : lv_has ls 4 [(0, .ref ar), (1, .ref br)] := hl
  refine lv_aload_n hx hb dX3_areSame_0 rfl (lv_at hl 0 rfl) ?_
  refine va_alen (v := iZ 2) hx hb hM.1 hP q_ar 0 e_ar rfl rfl dX3_areSame_1 ?_
  refine lv_aload_n hx hb dX3_areSame_2 rfl (lv_at hl 1 rfl) ?_
  refine va_alen (v := iZ 2) hx hb hM.1 hP q_br 0 e_br rfl rfl dX3_areSame_3 ?_
  refine kz_icmp_ne (tgt := 11) hx hb (by omega) (by omega) dX3_areSame_4 (by decide) (fun c_1 => absurd c_1 (by omega)) (fun c_1 => ?_)
  refine lv_iconst (v := iZ 1) hx hb dX3_areSame_7 rfl ?_
  refine lv_goto (tgt := 12) hx hb dX3_areSame_8 (by decide) ?_
  refine lv_istore_n (lv' := [(2, .int (iZ 1)), (0, .ref ar), (1, .ref br)]) hx hb dX3_areSame_12 rfl hl (by decide) rfl (fun ls hl => ?_)
  refine lv_iconst (v := iZ 0) hx hb dX3_areSame_13 rfl ?_
  refine lv_istore_n (lv' := [(3, .int (iZ 0)), (2, .int (iZ 1)), (0, .ref ar), (1, .ref br)]) hx hb dX3_areSame_14 rfl hl (by decide) rfl (fun ls hl => ?_)
  refine lv_iload_n hx hb dX3_areSame_15 rfl (lv_at hl 0 rfl) ?_
  refine lv_aload_n hx hb dX3_areSame_16 rfl (lv_at hl 2 rfl) ?_
  refine va_alen (v := iZ 2) hx hb hM.1 hP q_ar 0 e_ar rfl rfl dX3_areSame_17 ?_
  refine kz_icmp_ge (tgt := 46) hx hb (by omega) (by omega) dX3_areSame_18 (by decide) (fun c_2 => absurd c_2 (by omega)) (fun c_2 => ?_)
  refine lv_iload_n hx hb dX3_areSame_21 rfl (lv_at hl 1 rfl) ?_
  refine kz_if_eq (tgt := 38) hx hb (by omega) dX3_areSame_22 (by decide) (fun c_3 => absurd c_3 (by omega)) (fun c_3 => ?_)
  refine lv_aload_n hx hb dX3_areSame_25 rfl (lv_at hl 2 rfl) ?_
  refine lv_iload_n hx hb dX3_areSame_26 rfl (lv_at hl 0 rfl) ?_
  refine kz_iald (v := ar0) hx hb hM.1 hP q_ar 0 e_ar rfl (by omega) (by decide) e_ar0 dX3_areSame_27 ?_
  refine lv_aload_n hx hb dX3_areSame_28 rfl (lv_at hl 3 rfl) ?_
  refine lv_iload_n hx hb dX3_areSame_29 rfl (lv_at hl 0 rfl) ?_
  refine kz_iald (v := br0) hx hb hM.1 hP q_br 0 e_br rfl (by omega) (by decide) e_br0 dX3_areSame_30 ?_
  refine kz_icmp_ne (tgt := 38) hx hb (by omega) (by omega) dX3_areSame_31 (by decide) (fun c_4 => ?_) (fun c_4 => ?_)
  · refine lv_iconst (v := iZ 0) hx hb dX3_areSame_38 rfl ?_
    refine lv_istore_n (lv' := [(2, .int (iZ 0)), (3, .int (iZ 0)), (0, .ref ar), (1, .ref br)]) hx hb dX3_areSame_39 rfl hl (by decide) rfl (fun ls hl => ?_)
    refine lv_iinc (v := iZ (1)) (lv' := [(3, .int (iZ 1)), (2, .int (iZ 0)), (0, .ref ar), (1, .ref br)]) hx hb dX3_areSame_40 hl (k := 1) rfl rfl (by decide) rfl (fun ls hl => ?_)
    refine lv_goto (tgt := 15) hx hb dX3_areSame_43 (by decide) ?_
    refine lv_iload_n hx hb dX3_areSame_15 rfl (lv_at hl 0 rfl) ?_
    refine lv_aload_n hx hb dX3_areSame_16 rfl (lv_at hl 2 rfl) ?_
    refine va_alen (v := iZ 2) hx hb hM.1 hP q_ar 0 e_ar rfl rfl dX3_areSame_17 ?_
    refine kz_icmp_ge (tgt := 46) hx hb (by omega) (by omega) dX3_areSame_18 (by decide) (fun c_5 => absurd c_5 (by omega)) (fun c_5 => ?_)
    refine lv_iload_n hx hb dX3_areSame_21 rfl (lv_at hl 1 rfl) ?_
    refine kz_if_eq (tgt := 38) hx hb (by omega) dX3_areSame_22 (by decide) (fun c_6 => ?_) (fun c_6 => absurd c_6 (by omega))
    refine lv_iconst (v := iZ 0) hx hb dX3_areSame_38 rfl ?_
    refine lv_istore_n (lv' := [(2, .int (iZ 0)), (3, .int (iZ 1)), (0, .ref ar), (1, .ref br)]) hx hb dX3_areSame_39 rfl hl (by decide) rfl (fun ls hl => ?_)
    refine lv_iinc (v := iZ (2)) (lv' := [(3, .int (iZ 2)), (2, .int (iZ 0)), (0, .ref ar), (1, .ref br)]) hx hb dX3_areSame_40 hl (k := 1) rfl rfl (by decide) rfl (fun ls hl => ?_)
    refine lv_goto (tgt := 15) hx hb dX3_areSame_43 (by decide) ?_
    refine lv_iload_n hx hb dX3_areSame_15 rfl (lv_at hl 0 rfl) ?_
    refine lv_aload_n hx hb dX3_areSame_16 rfl (lv_at hl 2 rfl) ?_
    refine va_alen (v := iZ 2) hx hb hM.1 hP q_ar 0 e_ar rfl rfl dX3_areSame_17 ?_
    refine kz_icmp_ge (tgt := 46) hx hb (by omega) (by omega) dX3_areSame_18 (by decide) (fun c_7 => ?_) (fun c_7 => absurd c_7 (by omega))
    refine lv_iload_n hx hb dX3_areSame_46 rfl (lv_at hl 1 rfl) ?_
    exact W.zret (v := iZ 0) (ty := .boolean) hx hb hr rfl (fun t ht hW => ⟨congrArg (fun z : Int => Outcome.returned (some (Value.int (iZ z)))) (show 0 = (bZ (decide (ar0 = br0 ∧ ar1 = br1))) from by exact bZ_d0 (by omega)), ht⟩) (fun q h => by cases h) dX3_areSame_47
  · refine lv_iconst (v := iZ 1) hx hb dX3_areSame_34 rfl ?_
    refine lv_goto (tgt := 39) hx hb dX3_areSame_35 (by decide) ?_
    refine lv_istore_n (lv' := [(2, .int (iZ 1)), (3, .int (iZ 0)), (0, .ref ar), (1, .ref br)]) hx hb dX3_areSame_39 rfl hl (by decide) rfl (fun ls hl => ?_)
    refine lv_iinc (v := iZ (1)) (lv' := [(3, .int (iZ 1)), (2, .int (iZ 1)), (0, .ref ar), (1, .ref br)]) hx hb dX3_areSame_40 hl (k := 1) rfl rfl (by decide) rfl (fun ls hl => ?_)
    refine lv_goto (tgt := 15) hx hb dX3_areSame_43 (by decide) ?_
    refine lv_iload_n hx hb dX3_areSame_15 rfl (lv_at hl 0 rfl) ?_
    refine lv_aload_n hx hb dX3_areSame_16 rfl (lv_at hl 2 rfl) ?_
    refine va_alen (v := iZ 2) hx hb hM.1 hP q_ar 0 e_ar rfl rfl dX3_areSame_17 ?_
    refine kz_icmp_ge (tgt := 46) hx hb (by omega) (by omega) dX3_areSame_18 (by decide) (fun c_8 => absurd c_8 (by omega)) (fun c_8 => ?_)
    refine lv_iload_n hx hb dX3_areSame_21 rfl (lv_at hl 1 rfl) ?_
    refine kz_if_eq (tgt := 38) hx hb (by omega) dX3_areSame_22 (by decide) (fun c_9 => absurd c_9 (by omega)) (fun c_9 => ?_)
    refine lv_aload_n hx hb dX3_areSame_25 rfl (lv_at hl 2 rfl) ?_
    refine lv_iload_n hx hb dX3_areSame_26 rfl (lv_at hl 0 rfl) ?_
    refine kz_iald (v := ar1) hx hb hM.1 hP q_ar 0 e_ar rfl (by omega) (by decide) e_ar1 dX3_areSame_27 ?_
    refine lv_aload_n hx hb dX3_areSame_28 rfl (lv_at hl 3 rfl) ?_
    refine lv_iload_n hx hb dX3_areSame_29 rfl (lv_at hl 0 rfl) ?_
    refine kz_iald (v := br1) hx hb hM.1 hP q_br 0 e_br rfl (by omega) (by decide) e_br1 dX3_areSame_30 ?_
    refine kz_icmp_ne (tgt := 38) hx hb (by omega) (by omega) dX3_areSame_31 (by decide) (fun c_10 => ?_) (fun c_10 => ?_)
    · refine lv_iconst (v := iZ 0) hx hb dX3_areSame_38 rfl ?_
      refine lv_istore_n (lv' := [(2, .int (iZ 0)), (3, .int (iZ 1)), (0, .ref ar), (1, .ref br)]) hx hb dX3_areSame_39 rfl hl (by decide) rfl (fun ls hl => ?_)
      refine lv_iinc (v := iZ (2)) (lv' := [(3, .int (iZ 2)), (2, .int (iZ 0)), (0, .ref ar), (1, .ref br)]) hx hb dX3_areSame_40 hl (k := 1) rfl rfl (by decide) rfl (fun ls hl => ?_)
      refine lv_goto (tgt := 15) hx hb dX3_areSame_43 (by decide) ?_
      refine lv_iload_n hx hb dX3_areSame_15 rfl (lv_at hl 0 rfl) ?_
      refine lv_aload_n hx hb dX3_areSame_16 rfl (lv_at hl 2 rfl) ?_
      refine va_alen (v := iZ 2) hx hb hM.1 hP q_ar 0 e_ar rfl rfl dX3_areSame_17 ?_
      refine kz_icmp_ge (tgt := 46) hx hb (by omega) (by omega) dX3_areSame_18 (by decide) (fun c_11 => ?_) (fun c_11 => absurd c_11 (by omega))
      refine lv_iload_n hx hb dX3_areSame_46 rfl (lv_at hl 1 rfl) ?_
      exact W.zret (v := iZ 0) (ty := .boolean) hx hb hr rfl (fun t ht hW => ⟨congrArg (fun z : Int => Outcome.returned (some (Value.int (iZ z)))) (show 0 = (bZ (decide (ar0 = br0 ∧ ar1 = br1))) from by exact bZ_d0 (by omega)), ht⟩) (fun q h => by cases h) dX3_areSame_47
    · refine lv_iconst (v := iZ 1) hx hb dX3_areSame_34 rfl ?_
      refine lv_goto (tgt := 39) hx hb dX3_areSame_35 (by decide) ?_
      refine lv_istore_n (lv' := [(2, .int (iZ 1)), (3, .int (iZ 1)), (0, .ref ar), (1, .ref br)]) hx hb dX3_areSame_39 rfl hl (by decide) rfl (fun ls hl => ?_)
      refine lv_iinc (v := iZ (2)) (lv' := [(3, .int (iZ 2)), (2, .int (iZ 1)), (0, .ref ar), (1, .ref br)]) hx hb dX3_areSame_40 hl (k := 1) rfl rfl (by decide) rfl (fun ls hl => ?_)
      refine lv_goto (tgt := 15) hx hb dX3_areSame_43 (by decide) ?_
      refine lv_iload_n hx hb dX3_areSame_15 rfl (lv_at hl 0 rfl) ?_
      refine lv_aload_n hx hb dX3_areSame_16 rfl (lv_at hl 2 rfl) ?_
      refine va_alen (v := iZ 2) hx hb hM.1 hP q_ar 0 e_ar rfl rfl dX3_areSame_17 ?_
      refine kz_icmp_ge (tgt := 46) hx hb (by omega) (by omega) dX3_areSame_18 (by decide) (fun c_12 => ?_) (fun c_12 => absurd c_12 (by omega))
      refine lv_iload_n hx hb dX3_areSame_46 rfl (lv_at hl 1 rfl) ?_
      exact W.zret (v := iZ 1) (ty := .boolean) hx hb hr rfl (fun t ht hW => ⟨congrArg (fun z : Int => Outcome.returned (some (Value.int (iZ z)))) (show 1 = (bZ (decide (ar0 = br0 ∧ ar1 = br1))) from by exact bZ_d1 (by omega)), ht⟩) (fun q h => by cases h) dX3_areSame_47

