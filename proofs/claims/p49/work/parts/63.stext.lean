/-- the first n of f, then g -/
def cp (f g : Nat → Int) (n : Nat) : Nat → Int := fun j => if j < n then f j else g j
theorem cp_in {f g : Nat → Int} {n j : Nat} (h : j < n) : cp f g n j = f j := if_pos h
theorem kG_cp {f g : Nat → Int} {n : Nat} (hf : kG f) (hg : kG g) : kG (cp f g n) := fun j => by
  unfold cp; split
  · exact hf j
  · exact hg j
theorem kG_0 : kG (fun _ => (0 : Int)) := fun _ => (show -128 ≤ (0 : Int) ∧ (0 : Int) < 128 by decide)
/-- a String q of n letters in the bytes g of w -/
def kS (q w : Nat) (dA : Nat → ClassId) (g : Nat → Int) (n : Nat) : va_W := [(q, .inr (0, [.ref w, .int 0, .int 0, .int 0])), (w, .inl (dA 2, n, .inl (fun j => iZ (g j))))]
def kAS (b v q sz : Nat) : Nat → Prop := fun a => a = b ∨ a = v ∨ a = q ∨ sz ≤ a
theorem kAS_up {b v q sz sz' : Nat} (h : sz ≤ sz') : ∀ a, kAS b v q sz' a → kAS b v q sz a := fun a h9 => by
  rcases h9 with h9 | h9 | h9 | h9
  · exact Or.inl h9
  · exact Or.inr (Or.inl h9)
  · exact Or.inr (Or.inr (Or.inl h9))
  · exact Or.inr (Or.inr (Or.inr (Nat.le_trans h h9)))
theorem kAS_new {b v q sz : Nat} : ∀ a, sz ≤ a → kAS b v q sz a := fun _ h => Or.inr (Or.inr (Or.inr h))
theorem kW3_D {b v q sz : Nat} {e1 e2 e3 : va_E} (h1 : b ≠ v) (h2 : b ≠ q) (h3 : v ≠ q) : va_D (kAS b v q sz) [(b, e1), (v, e2), (q, e3)] :=
  ⟨fun i j p p2 hi hj e => by
    have l1 : i < 3 := (List.getElem?_eq_some_iff.mp hi).1
    have l2 : j < 3 := (List.getElem?_eq_some_iff.mp hj).1
    match i, j, l1, l2 with
    | 0, 0, _, _ => rfl
    | 1, 1, _, _ => rfl
    | 2, 2, _, _ => rfl
    | 0, 1, _, _ => cases hi; cases hj; exact absurd e h1
    | 1, 0, _, _ => cases hi; cases hj; exact absurd e.symm h1
    | 0, 2, _, _ => cases hi; cases hj; exact absurd e h2
    | 2, 0, _, _ => cases hi; cases hj; exact absurd e.symm h2
    | 1, 2, _, _ => cases hi; cases hj; exact absurd e h3
    | 2, 1, _, _ => cases hi; cases hj; exact absurd e.symm h3, fun i p hi => by
    have l1 : i < 3 := (List.getElem?_eq_some_iff.mp hi).1
    match i, l1 with
    | 0, _ => cases hi; exact Or.inl rfl
    | 1, _ => cases hi; exact Or.inr (Or.inl rfl)
    | 2, _ => cases hi; exact Or.inr (Or.inr (Or.inl rfl))⟩
theorem kAS_N {b v q sz : Nat} {k : Nat → Nat} (h1 : k 0 ≤ b) (h2 : k 0 ≤ v) (h4 : k 0 ≤ q) (h3 : k 0 ≤ sz) : ∀ a, kAS b v q sz a → k 0 ≤ a := fun a h => by
  rcases h with rfl | rfl | rfl | h
  · exact h1
  · exact h2
  · exact h4
  · exact Nat.le_trans h3 h
section
variable {p : Program} {l : Launch} {e : Env} {R : Room} {s : State} {m : MethodId} {args : Array Value} {below : List Frame} {meth : Method} {c : Code} {H : Heap} {locs : List Loc} {cells slots : Nat} {Q : State → Prop}
variable {cc : ByteArray} {pc : Nat} {ls : Array Slot} {rest : List Value} {D : va_G} {cl : List vw_C} {A : Nat → Prop} {a : Nat} {ws : va_W} {H0 : Heap} {dA : Nat → ClassId}
/-- arraycopy of n bytes from 0 on to 0 on -/
theorem kz_copy (hx : p.tables.exec = Jvm.exec) (hb : c.code = cc) (hml : c.maxLocals = ls.size) {own : String} {index : Nat} (hown : s.vm.findClass own = some m.cls) (hlink : (Cond.methodLink own index arraycopyName).before args s = true) (hnat : (Cond.native arraycopyName).before args s = true) (hstat : (Cond.static arraycopyName).before args s = true) (hini : (Cond.initialized "java/lang/System").before args s = true)
    (hK : va_K D cl (kT dA) s) (hP : va_P D cl ws H) (hD : va_D A ws) (hS : va_S A H0 H locs) (q0 q1 : Nat) {a0 n0 n1 : Nat} {f g : Nat → Int} (ha0 : ws[q0]? = some (a0, .inl (dA 2, n0, .inl (fun j => iZ (f j))))) (ha1 : ws[q1]? = some (a, .inl (dA 2, n1, .inl (fun j => iZ (g j))))) (hf : kG f) {z : Int} {n : Nat} (hz : z = (n : Int)) (h4 : n ≤ n0) (h5 : n ≤ n1) (h6 : n < 65536)
    (hframes : 1 ≤ R.frames) (hlocals : (rest.map fun v => v.category).sum + (nativeFrameWords "java/lang/System" "arraycopy" 5 + 11) ≤ R.locals) (hdg : decode cc pc = .ok (.invokestatic index, 3))
    (kk : ∀ (H1 : Heap) (locs1 : List Loc), va_P D cl (ws.set q1 (a, .inl (dA 2, n1, .inl (fun j => iZ (cp f g n j))))) H1 → va_D A (ws.set q1 (a, .inl (dA 2, n1, .inl (fun j => iZ (cp f g n j))))) → va_S A H0 H1 locs1 → W p l e R s m args below meth c H1 locs1 cells slots Q (F0 m (pc + 3) ls rest)) : W p l e R s m args below meth c H locs cells slots Q (F0 m pc ls (.int (iZ z) :: .int (iZ 0) :: .ref a :: .int (iZ 0) :: .ref a0 :: rest)) := by
  subst hz
  have c1 : (iZ (n : Int)).toNatClampNeg = n := by rw [iZ_cl ⟨by omega, by omega⟩]; rfl
  have c0 : (iZ 0).toNatClampNeg = 0 := rfl
  have n1' : ¬ iZ (n : Int) < 0 := fun q => by
    have h9 := (iZ_lt (a := (n : Int)) (b := 0) ⟨by omega, by omega⟩ (by decide)).mp q
    omega
  refine va_copyi hx hb hml hown hlink hnat hstat hini hK hP hD hS q0 q1 2 2 ha0 ha1 rfl rfl rfl (by decide) (by decide) n1' (by rw [c1, c0]; omega) (by rw [c1, c0]; omega) (fun i _ => kfitb (hf _)) hframes hlocals hdg ?_
  rw [c1, c0, show va_cpy (fun j => iZ (f j)) (fun j => iZ (g j)) 0 0 n = fun j => iZ (cp f g n j) from funext fun j => by
    unfold cp
    by_cases h : j < n
    · rw [pk_cpy_in (by omega) (by omega), if_pos h]; exact congrArg (fun x => iZ (f x)) (by omega)
    · rw [pk_cpy_out (by omega), if_neg h]]
  exact kk
end
abbrev ww_J0_coder_7d493 : List Cond := .code yJ0_coder_7d493 cJ0_coder_7d493 1 (some .byte) :: gT
set_option maxHeartbeats 4000000 in
set_option maxRecDepth 100000 in
theorem c_J0_coder_7d493D (l : Launch) (dC : Nat → ClassId) (dI : Nat → Nat → Nat) (dA : Nat → ClassId) (k : Nat → Nat) (q w : Nat) (g : Nat → Int) (n : Nat) (H0 : Heap) (hP : va_P (dC, dI) vwCl (kS q w dA g n) H0) (hn : n < 65536)   : Met l yJ0_coder_7d493 ww_J0_coder_7d493 ({ frames := 0, cells := 0, slots := 0, locals := 0 }) (va_Pc [.ref q] (fun U => U.heap = H0 ∧ kMJ dC dI dA k U)) (kQ0 (some (.int (iZ 0))) H0) 0 0 kN := by
  refine va_MetF (cc := cJ0_coder_7d493) (maxL := 1) (ret := (some .byte)) (by decide +kernel) rfl ?_
  intro p e s m args below meth c s₁ B hml hv
  obtain ⟨rfl, hH, hM⟩ := hv
  subst hH
  have hAN : ∀ a, kN0 k a → k 0 ≤ a := fun a h => h
  have hS : va_S (kN0 k) s.heap s.heap [] := va_S.rf
  have hP : va_P (dC, dI) vwCl ([(q, .inr (0, [.ref w, .int 0, .int 0, .int 0])), (w, .inl (dA 2, n, .inl (fun j => iZ (g j))))] : va_W) s.heap := hP
  have hx := B.exec
  have hb := B.bytes
  have hr9 := B.returns
  have hts := atoms_spec (ws := ww_J0_coder_7d493) B.pre
  have hown : s.vm.findClass RJ0 = some m.cls := findClass_of_methodNamed B.named
  have hlocks := B.notSynchronized
  have hl := lv_entry ([.ref q]) (n := 1) (Nat.le_of_ble_eq_true rfl)
  rw [lg_entry_eq]
  generalize (lg_sl ([.ref q]) ++ List.replicate (1 - (lg_sl ([.ref q])).length) Slot.unset).toArray = ls at hl ⊢
  have hl : lv_has ls 1 [(0, .ref q)] := hl
  refine va_gets (v := .int 1) hx hb hM.2.1 (kSN hS hAN) hown (hts _ (List.mem_cons_of_mem _ mw333)) (fun _ h9 => h9) dJ0_coder_7d493_0 ?_
  refine W.eq (g2 := F0 m 3 ls [.int (iZ 1)]) rfl ?_
  refine kz_if_eq (tgt := 13) hx hb (by omega) dJ0_coder_7d493_3 (by decide) (fun c_1 => absurd c_1 (by omega)) (fun c_1 => ?_)
  refine lv_aload_n hx hb dJ0_coder_7d493_6 rfl (lv_at hl 0 rfl) ?_
  refine va_get (D := (dC, dI)) (ci := 0) (v := .int 0) (C := RJ0) (T := TJ0) (N := 4) hx hb hts (fun w h => List.mem_cons_of_mem _ (gF_4_in h)) hown hM.1.1 hP 0 rfl rfl 1 (by decide) (hts _ (List.mem_cons_of_mem _ mw439)) (fun _ h9 => h9) rfl dJ0_coder_7d493_7 ?_
  refine lv_goto (tgt := 14) hx hb dJ0_coder_7d493_10 (by decide) ?_
  refine W.eq (g2 := F0 m 14 ls [.int (iZ 0)]) rfl ?_
  exact W.zret (v := iZ 0) (ty := .byte) hx hb hr9 rfl (fun t ht hW => ⟨congrArg (fun z : Int => Outcome.returned (some (Value.int (iZ z)))) (show 0 = 0 from rfl), ht⟩) (fun q h => by cases h) dJ0_coder_7d493_14

abbrev ww_J0_isLatin1_aae02 : List Cond := .code yJ0_isLatin1_aae02 cJ0_isLatin1_aae02 1 (some .boolean) :: gT
set_option maxHeartbeats 4000000 in
set_option maxRecDepth 100000 in
theorem c_J0_isLatin1_aae02D (l : Launch) (dC : Nat → ClassId) (dI : Nat → Nat → Nat) (dA : Nat → ClassId) (k : Nat → Nat) (q w : Nat) (g : Nat → Int) (n : Nat) (H0 : Heap) (hP : va_P (dC, dI) vwCl (kS q w dA g n) H0) (hn : n < 65536)   : Met l yJ0_isLatin1_aae02 ww_J0_isLatin1_aae02 ({ frames := 0, cells := 0, slots := 0, locals := 0 }) (va_Pc [.ref q] (fun U => U.heap = H0 ∧ kMJ dC dI dA k U)) (kQ0 (some (.int (iZ (bZ (true))))) H0) 0 0 kN := by
  refine va_MetF (cc := cJ0_isLatin1_aae02) (maxL := 1) (ret := (some .boolean)) (by decide +kernel) rfl ?_
  intro p e s m args below meth c s₁ B hml hv
  obtain ⟨rfl, hH, hM⟩ := hv
  subst hH
  have hAN : ∀ a, kN0 k a → k 0 ≤ a := fun a h => h
  have hS : va_S (kN0 k) s.heap s.heap [] := va_S.rf
  have hP : va_P (dC, dI) vwCl ([(q, .inr (0, [.ref w, .int 0, .int 0, .int 0])), (w, .inl (dA 2, n, .inl (fun j => iZ (g j))))] : va_W) s.heap := hP
  have hx := B.exec
  have hb := B.bytes
  have hr9 := B.returns
  have hts := atoms_spec (ws := ww_J0_isLatin1_aae02) B.pre
  have hown : s.vm.findClass RJ0 = some m.cls := findClass_of_methodNamed B.named
  have hlocks := B.notSynchronized
  have hl := lv_entry ([.ref q]) (n := 1) (Nat.le_of_ble_eq_true rfl)
  rw [lg_entry_eq]
  generalize (lg_sl ([.ref q]) ++ List.replicate (1 - (lg_sl ([.ref q])).length) Slot.unset).toArray = ls at hl ⊢
  have hl : lv_has ls 1 [(0, .ref q)] := hl
  refine va_gets (v := .int 1) hx hb hM.2.1 (kSN hS hAN) hown (hts _ (List.mem_cons_of_mem _ mw333)) (fun _ h9 => h9) dJ0_isLatin1_aae02_0 ?_
  refine W.eq (g2 := F0 m 3 ls [.int (iZ 1)]) rfl ?_
  refine kz_if_eq (tgt := 17) hx hb (by omega) dJ0_isLatin1_aae02_3 (by decide) (fun c_1 => absurd c_1 (by omega)) (fun c_1 => ?_)
  refine lv_aload_n hx hb dJ0_isLatin1_aae02_6 rfl (lv_at hl 0 rfl) ?_
  refine va_get (D := (dC, dI)) (ci := 0) (v := .int 0) (C := RJ0) (T := TJ0) (N := 4) hx hb hts (fun w h => List.mem_cons_of_mem _ (gF_4_in h)) hown hM.1.1 hP 0 rfl rfl 1 (by decide) (hts _ (List.mem_cons_of_mem _ mw439)) (fun _ h9 => h9) rfl dJ0_isLatin1_aae02_7 ?_
  refine W.eq (g2 := F0 m 10 ls [.int (iZ 0)]) rfl ?_
  refine kz_if_ne (tgt := 17) hx hb (by omega) dJ0_isLatin1_aae02_10 (by decide) (fun c_2 => absurd c_2 (by omega)) (fun c_2 => ?_)
  refine lv_iconst (v := iZ 1) hx hb dJ0_isLatin1_aae02_13 rfl ?_
  refine lv_goto (tgt := 18) hx hb dJ0_isLatin1_aae02_14 (by decide) ?_
  exact W.zret (v := iZ 1) (ty := .boolean) hx hb hr9 rfl (fun t ht hW => ⟨congrArg (fun z : Int => Outcome.returned (some (Value.int (iZ z)))) (show 1 = (bZ (true)) from by rfl), ht⟩) (fun q h => by cases h) dJ0_isLatin1_aae02_18

abbrev ww_J0_length_8abf5 : List Cond := .code yJ0_length_8abf5 cJ0_length_8abf5 1 (some .int) :: gT
set_option maxHeartbeats 4000000 in
set_option maxRecDepth 100000 in
theorem c_J0_length_8abf5D (l : Launch) (dC : Nat → ClassId) (dI : Nat → Nat → Nat) (dA : Nat → ClassId) (k : Nat → Nat) (q w : Nat) (g : Nat → Int) (n : Nat) (H0 : Heap) (hP : va_P (dC, dI) vwCl (kS q w dA g n) H0) (hn : n < 65536)   : Met l yJ0_length_8abf5 ww_J0_length_8abf5 ({ frames := 1, cells := 0, slots := 0, locals := 20 }) (va_Pc [.ref q] (fun U => U.heap = H0 ∧ kMJ dC dI dA k U)) (kQ0 (some (.int (iZ (((n : Nat) : Int))))) H0) 0 0 kN := by
  refine va_MetF (cc := cJ0_length_8abf5) (maxL := 1) (ret := (some .int)) (by decide +kernel) rfl ?_
  intro p e s m args below meth c s₁ B hml hv
  obtain ⟨rfl, hH, hM⟩ := hv
  subst hH
  have hAN : ∀ a, kN0 k a → k 0 ≤ a := fun a h => h
  have hS : va_S (kN0 k) s.heap s.heap [] := va_S.rf
  have hP : va_P (dC, dI) vwCl ([(q, .inr (0, [.ref w, .int 0, .int 0, .int 0])), (w, .inl (dA 2, n, .inl (fun j => iZ (g j))))] : va_W) s.heap := hP
  have hx := B.exec
  have hb := B.bytes
  have hr9 := B.returns
  have hts := atoms_spec (ws := ww_J0_length_8abf5) B.pre
  have hown : s.vm.findClass RJ0 = some m.cls := findClass_of_methodNamed B.named
  have hlocks := B.notSynchronized
  have hl := lv_entry ([.ref q]) (n := 1) (Nat.le_of_ble_eq_true rfl)
  rw [lg_entry_eq]
  generalize (lg_sl ([.ref q]) ++ List.replicate (1 - (lg_sl ([.ref q])).length) Slot.unset).toArray = ls at hl ⊢
  have hl : lv_has ls 1 [(0, .ref q)] := hl
  refine lv_aload_n hx hb dJ0_length_8abf5_0 rfl (lv_at hl 0 rfl) ?_
  refine va_get (D := (dC, dI)) (ci := 0) (v := .ref w) (C := RJ0) (T := TJ0) (N := 4) hx hb hts (fun w h => List.mem_cons_of_mem _ (gF_4_in h)) hown hM.1.1 hP 0 rfl rfl 0 (by decide) (hts _ (List.mem_cons_of_mem _ mw438)) (fun _ h9 => h9) rfl dJ0_length_8abf5_1 ?_
  refine kz_blen hx hb hM.1.1 hP 1 rfl dJ0_length_8abf5_4 ?_
  refine lv_aload_n hx hb dJ0_length_8abf5_5 rfl (lv_at hl 0 rfl) ?_
  refine kc0 (fun _ q => q) (va_runV (As := []) (rest := [.int (iZ (((n : Nat) : Int)))]) ⟨hx, hb, hml, hown, hts⟩ (c_J0_coder_7d493D l dC dI dA k q w g n _ hP hn) (cwV 0 hts (kg_V mw329 mw330 mw331 mw45 rfl mw332) rfl rfl rfl hdV_J0_coder_7d493 ⟨Nat.le_of_ble_eq_true rfl, Nat.le_of_ble_eq_true rfl⟩) ⟨fun a U g mk q => ⟨q.1, q.2.1, kMJ_call q.2.2⟩, va_recv hM.1.1 hP (ci := 0) (q0 := 0) rfl rfl, fun U hU hW => ⟨rfl, hU, kMJ_kept hM hS hAN hU hW⟩⟩ rfl rfl hl.1 rfl (lv_room (Nat.le_of_ble_eq_true rfl)) dJ0_length_8abf5_6 ⟨Nat.le_of_ble_eq_true rfl, Nat.le_of_ble_eq_true rfl⟩) ?_
  refine W.eq (g2 := F0 m 9 ls [.int 0, .int (iZ (((n : Nat) : Int)))]) rfl ?_
  refine kz_ishr0 hx hb dJ0_length_8abf5_9 ?_
  exact W.iret (v := iZ (((n : Nat) : Int))) hx hb hr9 (fun t ht hW => ⟨congrArg (fun z : Int => Outcome.returned (some (Value.int (iZ z)))) (show (((n : Nat) : Int)) = (((n : Nat) : Int)) from rfl), ht⟩) (fun q h => by cases h) dJ0_length_8abf5_10

abbrev ww_J1_charAt_3b067 : List Cond := .code yJ1_charAt_3b067 cJ1_charAt_3b067 2 (some .char) :: gT
set_option maxHeartbeats 4000000 in
set_option maxRecDepth 100000 in
theorem c_J1_charAt_3b067 (l : Launch) (dC : Nat → ClassId) (dI : Nat → Nat → Nat) (dA : Nat → ClassId) (k : Nat → Nat) (w : Nat) (g : Nat → Int) (n : Nat) (H0 : Heap) (hP : va_P (dC, dI) vwCl ([(w, .inl (dA 2, n, .inl (fun j => iZ (g j))))] : va_W) H0) (hn : n < 65536) (ii : Int) (h0 : 0 ≤ ii ∧ ii < (n : Int)) (h1 : 0 ≤ g (ii).toNat ∧ g (ii).toNat < 128) : Met l yJ1_charAt_3b067 ww_J1_charAt_3b067 ({ frames := 2, cells := 0, slots := 0, locals := 43 }) (va_Pc [.ref w, .int (iZ ii)] (fun U => U.heap = H0 ∧ kMJ dC dI dA k U)) (kQ0 (some (.int (iZ (g (ii).toNat)))) H0) 0 0 kN := by
  refine va_MetF (cc := cJ1_charAt_3b067) (maxL := 2) (ret := (some .char)) (by decide +kernel) rfl ?_
  intro p e s m args below meth c s₁ B hml hv
  obtain ⟨rfl, hH, hM⟩ := hv
  subst hH
  have hAN : ∀ a, kN0 k a → k 0 ≤ a := fun a h => h
  have hS : va_S (kN0 k) s.heap s.heap [] := va_S.rf
  have hx := B.exec
  have hb := B.bytes
  have hr9 := B.returns
  have hts := atoms_spec (ws := ww_J1_charAt_3b067) B.pre
  have hown : s.vm.findClass RJ1 = some m.cls := findClass_of_methodNamed B.named
  have hlocks := B.notSynchronized
  have hl := lv_entry ([.ref w, .int (iZ ii)]) (n := 2) (Nat.le_of_ble_eq_true rfl)
  rw [lg_entry_eq]
  generalize (lg_sl ([.ref w, .int (iZ ii)]) ++ List.replicate (2 - (lg_sl ([.ref w, .int (iZ ii)])).length) Slot.unset).toArray = ls at hl ⊢
  have hl : lv_has ls 2 [(0, .ref w), (1, .int (iZ ii))] := hl
  refine lv_iload_n hx hb dJ1_charAt_3b067_0 rfl (lv_at hl 1 rfl) ?_
  refine lv_aload_n hx hb dJ1_charAt_3b067_1 rfl (lv_at hl 0 rfl) ?_
  refine kz_blen hx hb hM.1.1 hP 0 rfl dJ1_charAt_3b067_2 ?_
  refine kc0v (fun _ q => q) (va_runS (As := [.int (iZ ii), .int (iZ (((n : Nat) : Int)))]) (rest := []) ⟨hx, hb, hml, hown, hts⟩ (c_J0_checkIndex_df160 l dC dI dA k _ (ii) ((((n : Nat) : Int))) (by omega) (by omega)) (va_cwS 2 hts (kg_S mw1431 mw480 mw45 rfl mw481) rfl rfl rfl hdS_J0_checkIndex_df160 ⟨Nat.le_of_ble_eq_true rfl, Nat.le_of_ble_eq_true rfl⟩) ⟨fun a U g mk q => ⟨q.1, q.2.1, kMJ_call q.2.2⟩, fun U hU hW => ⟨rfl, hU, kMJ_kept hM hS hAN hU hW⟩⟩ rfl rfl hl.1 rfl (lv_room (Nat.le_of_ble_eq_true rfl)) dJ1_charAt_3b067_3 ⟨Nat.le_of_ble_eq_true rfl, Nat.le_of_ble_eq_true rfl⟩) ?_
  refine lv_aload_n hx hb dJ1_charAt_3b067_6 rfl (lv_at hl 0 rfl) ?_
  refine lv_iload_n hx hb dJ1_charAt_3b067_7 rfl (lv_at hl 1 rfl) ?_
  refine kz_bald hx hb hM.1.1 hP 0 rfl (by omega) (by omega) dJ1_charAt_3b067_8 ?_
  refine lv_sipush (v := iZ 255) hx hb dJ1_charAt_3b067_9 rfl ?_
  refine kz_and255 hx hb (by omega) dJ1_charAt_3b067_12 ?_
  refine lv_i2c (v := iZ (g (ii).toNat)) hx hb dJ1_charAt_3b067_13 (ki2c (by omega)) ?_
  exact W.zret (v := iZ (g (ii).toNat)) (ty := .char) hx hb hr9 (by have h9 := (pk_charN (q := (g (ii).toNat).toNat) (by omega)).1; rw [nI_iZ, Int.toNat_of_nonneg (by omega)] at h9; exact h9) (fun t ht hW => ⟨rfl, ht⟩) (fun q h => by cases h) dJ1_charAt_3b067_14

abbrev ww_J0_charAt_5068e : List Cond := .code yJ0_charAt_5068e cJ0_charAt_5068e 2 (some .char) :: gT
set_option maxHeartbeats 4000000 in
set_option maxRecDepth 100000 in
theorem c_J0_charAt_5068eD (l : Launch) (dC : Nat → ClassId) (dI : Nat → Nat → Nat) (dA : Nat → ClassId) (k : Nat → Nat) (q w : Nat) (g : Nat → Int) (n : Nat) (H0 : Heap) (hP : va_P (dC, dI) vwCl (kS q w dA g n) H0) (hn : n < 65536) (ii : Int) (h0 : 0 ≤ ii ∧ ii < (n : Int)) (h1 : 0 ≤ g (ii).toNat ∧ g (ii).toNat < 128) : Met l yJ0_charAt_5068e ww_J0_charAt_5068e ({ frames := 3, cells := 0, slots := 0, locals := 64 }) (va_Pc [.ref q, .int (iZ ii)] (fun U => U.heap = H0 ∧ kMJ dC dI dA k U)) (kQ0 (some (.int (iZ (g (ii).toNat)))) H0) 0 0 kN := by
  refine va_MetF (cc := cJ0_charAt_5068e) (maxL := 2) (ret := (some .char)) (by decide +kernel) rfl ?_
  intro p e s m args below meth c s₁ B hml hv
  obtain ⟨rfl, hH, hM⟩ := hv
  subst hH
  have hAN : ∀ a, kN0 k a → k 0 ≤ a := fun a h => h
  have hS : va_S (kN0 k) s.heap s.heap [] := va_S.rf
  have hP : va_P (dC, dI) vwCl ([(q, .inr (0, [.ref w, .int 0, .int 0, .int 0])), (w, .inl (dA 2, n, .inl (fun j => iZ (g j))))] : va_W) s.heap := hP
  have hx := B.exec
  have hb := B.bytes
  have hr9 := B.returns
  have hts := atoms_spec (ws := ww_J0_charAt_5068e) B.pre
  have hown : s.vm.findClass RJ0 = some m.cls := findClass_of_methodNamed B.named
  have hlocks := B.notSynchronized
  have hl := lv_entry ([.ref q, .int (iZ ii)]) (n := 2) (Nat.le_of_ble_eq_true rfl)
  rw [lg_entry_eq]
  generalize (lg_sl ([.ref q, .int (iZ ii)]) ++ List.replicate (2 - (lg_sl ([.ref q, .int (iZ ii)])).length) Slot.unset).toArray = ls at hl ⊢
  have hl : lv_has ls 2 [(0, .ref q), (1, .int (iZ ii))] := hl
  refine lv_aload_n hx hb dJ0_charAt_5068e_0 rfl (lv_at hl 0 rfl) ?_
  refine kc0 (fun _ q => q) (va_runV (As := []) (rest := []) ⟨hx, hb, hml, hown, hts⟩ (c_J0_isLatin1_aae02D l dC dI dA k q w g n _ hP hn) (cwV 0 hts (kg_V mw1424 mw1425 mw1426 mw45 rfl mw1427) rfl rfl rfl hdV_J0_isLatin1_aae02 ⟨Nat.le_of_ble_eq_true rfl, Nat.le_of_ble_eq_true rfl⟩) ⟨fun a U g mk q => ⟨q.1, q.2.1, kMJ_call q.2.2⟩, va_recv hM.1.1 hP (ci := 0) (q0 := 0) rfl rfl, fun U hU hW => ⟨rfl, hU, kMJ_kept hM hS hAN hU hW⟩⟩ rfl rfl hl.1 rfl (lv_room (Nat.le_of_ble_eq_true rfl)) dJ0_charAt_5068e_1 ⟨Nat.le_of_ble_eq_true rfl, Nat.le_of_ble_eq_true rfl⟩) ?_
  refine kz_ifb_eq (tgt := 16) hx hb  dJ0_charAt_5068e_4 (by decide) (fun c_1 => absurd c_1 (by decide)) (fun c_1 => ?_)
  refine lv_aload_n hx hb dJ0_charAt_5068e_7 rfl (lv_at hl 0 rfl) ?_
  refine va_get (D := (dC, dI)) (ci := 0) (v := .ref w) (C := RJ0) (T := TJ0) (N := 4) hx hb hts (fun w h => List.mem_cons_of_mem _ (gF_4_in h)) hown hM.1.1 hP 0 rfl rfl 0 (by decide) (hts _ (List.mem_cons_of_mem _ mw438)) (fun _ h9 => h9) rfl dJ0_charAt_5068e_8 ?_
  refine lv_iload_n hx hb dJ0_charAt_5068e_11 rfl (lv_at hl 1 rfl) ?_
  refine kc0 (fun _ q => q) (va_runS (As := [.ref w, .int (iZ ii)]) (rest := []) ⟨hx, hb, hml, hown, hts⟩ (c_J1_charAt_3b067 l dC dI dA k w g n _ (hP.sub [1] rfl) hn (ii) h0 h1) (va_cwS 2 hts (kg_S mw1428 mw1429 mw58 rfl mw1430) rfl rfl rfl hdS_J1_charAt_3b067 ⟨Nat.le_of_ble_eq_true rfl, Nat.le_of_ble_eq_true rfl⟩) ⟨fun a U g mk q => ⟨q.1, q.2.1, kMJ_call q.2.2⟩, fun U hU hW => ⟨rfl, hU, kMJ_kept hM hS hAN hU hW⟩⟩ rfl rfl hl.1 rfl (lv_room (Nat.le_of_ble_eq_true rfl)) dJ0_charAt_5068e_12 ⟨Nat.le_of_ble_eq_true rfl, Nat.le_of_ble_eq_true rfl⟩) ?_
  exact W.zret (v := iZ (g (ii).toNat)) (ty := .char) hx hb hr9 (by have h9 := (pk_charN (q := (g (ii).toNat).toNat) (by omega)).1; rw [nI_iZ, Int.toNat_of_nonneg (by omega)] at h9; exact h9) (fun t ht hW => ⟨congrArg (fun z : Int => Outcome.returned (some (Value.int (iZ z)))) (show (g (ii).toNat) = (g (ii).toNat) from rfl), ht⟩) (fun q h => by cases h) dJ0_charAt_5068e_15

set_option maxHeartbeats 4000000 in
set_option maxRecDepth 100000 in
theorem c_J0_coder_7d493C (l : Launch) (dC : Nat → ClassId) (dI : Nat → Nat → Nat) (dA : Nat → ClassId) (k : Nat → Nat) (H0 : Heap)   : Met l yJ0_coder_7d493 ww_J0_coder_7d493 ({ frames := 0, cells := 0, slots := 0, locals := 0 }) (va_Pc [.ref (k 7)] (fun U => U.heap = H0 ∧ kMJ dC dI dA k U)) (kQ0 (some (.int (iZ 0))) H0) 0 0 kN := by
  refine va_MetF (cc := cJ0_coder_7d493) (maxL := 1) (ret := (some .byte)) (by decide +kernel) rfl ?_
  intro p e s m args below meth c s₁ B hml hv
  obtain ⟨rfl, hH, hM⟩ := hv
  subst hH
  have hAN : ∀ a, kN0 k a → k 0 ≤ a := fun a h => h
  have hS : va_S (kN0 k) s.heap s.heap [] := va_S.rf
  have hx := B.exec
  have hb := B.bytes
  have hr9 := B.returns
  have hts := atoms_spec (ws := ww_J0_coder_7d493) B.pre
  have hown : s.vm.findClass RJ0 = some m.cls := findClass_of_methodNamed B.named
  have hlocks := B.notSynchronized
  have hl := lv_entry ([.ref (k 7)]) (n := 1) (Nat.le_of_ble_eq_true rfl)
  rw [lg_entry_eq]
  generalize (lg_sl ([.ref (k 7)]) ++ List.replicate (1 - (lg_sl ([.ref (k 7)])).length) Slot.unset).toArray = ls at hl ⊢
  have hl : lv_has ls 1 [(0, .ref (k 7))] := hl
  refine va_gets (v := .int 1) hx hb hM.2.1 (kSN hS hAN) hown (hts _ (List.mem_cons_of_mem _ mw333)) (fun _ h9 => h9) dJ0_coder_7d493_0 ?_
  refine W.eq (g2 := F0 m 3 ls [.int (iZ 1)]) rfl ?_
  refine kz_if_eq (tgt := 13) hx hb (by omega) dJ0_coder_7d493_3 (by decide) (fun c_1 => absurd c_1 (by omega)) (fun c_1 => ?_)
  refine lv_aload_n hx hb dJ0_coder_7d493_6 rfl (lv_at hl 0 rfl) ?_
  refine vk_getf (v := .int 0) hx hb (hM.2.2.2.2.2.2.2.2.1 0 (by decide)).2.1 (kSN hS hAN) hown (hts _ (List.mem_cons_of_mem _ mw439)) (fun _ h9 => h9) dJ0_coder_7d493_7 ?_
  refine lv_goto (tgt := 14) hx hb dJ0_coder_7d493_10 (by decide) ?_
  refine W.eq (g2 := F0 m 14 ls [.int (iZ 0)]) rfl ?_
  exact W.zret (v := iZ 0) (ty := .byte) hx hb hr9 rfl (fun t ht hW => ⟨rfl, ht⟩) (fun q h => by cases h) dJ0_coder_7d493_14

set_option maxHeartbeats 4000000 in
set_option maxRecDepth 100000 in
theorem c_J0_length_8abf5C (l : Launch) (dC : Nat → ClassId) (dI : Nat → Nat → Nat) (dA : Nat → ClassId) (k : Nat → Nat) (H0 : Heap)   : Met l yJ0_length_8abf5 ww_J0_length_8abf5 ({ frames := 1, cells := 0, slots := 0, locals := 20 }) (va_Pc [.ref (k 7)] (fun U => U.heap = H0 ∧ kMJ dC dI dA k U)) (kQ0 (some (.int (iZ 0))) H0) 0 0 kN := by
  refine va_MetF (cc := cJ0_length_8abf5) (maxL := 1) (ret := (some .int)) (by decide +kernel) rfl ?_
  intro p e s m args below meth c s₁ B hml hv
  obtain ⟨rfl, hH, hM⟩ := hv
  subst hH
  have hAN : ∀ a, kN0 k a → k 0 ≤ a := fun a h => h
  have hS : va_S (kN0 k) s.heap s.heap [] := va_S.rf
  have hx := B.exec
  have hb := B.bytes
  have hr9 := B.returns
  have hts := atoms_spec (ws := ww_J0_length_8abf5) B.pre
  have hown : s.vm.findClass RJ0 = some m.cls := findClass_of_methodNamed B.named
  have hlocks := B.notSynchronized
  have hl := lv_entry ([.ref (k 7)]) (n := 1) (Nat.le_of_ble_eq_true rfl)
  rw [lg_entry_eq]
  generalize (lg_sl ([.ref (k 7)]) ++ List.replicate (1 - (lg_sl ([.ref (k 7)])).length) Slot.unset).toArray = ls at hl ⊢
  have hl : lv_has ls 1 [(0, .ref (k 7))] := hl
  refine lv_aload_n hx hb dJ0_length_8abf5_0 rfl (lv_at hl 0 rfl) ?_
  refine vk_getf (v := .ref (k 8)) hx hb (hM.2.2.2.2.2.2.2.2.1 0 (by decide)).2.2.1 (kSN hS hAN) hown (hts _ (List.mem_cons_of_mem _ mw438)) (fun _ h9 => h9) dJ0_length_8abf5_1 ?_
  refine va_tlen (v := iZ 0) hx hb (hM.2.2.2.2.2.2.2.2.1 0 (by decide)).2.2.2 (kSN hS hAN) rfl dJ0_length_8abf5_4 ?_
  refine lv_aload_n hx hb dJ0_length_8abf5_5 rfl (lv_at hl 0 rfl) ?_
  refine kc0 (fun _ q => q) (va_runV (As := []) (rest := [.int (iZ 0)]) ⟨hx, hb, hml, hown, hts⟩ (c_J0_coder_7d493C l dC dI dA k _) (cwV 0 hts (kg_V mw329 mw330 mw331 mw45 rfl mw332) rfl rfl rfl hdV_J0_coder_7d493 ⟨Nat.le_of_ble_eq_true rfl, Nat.le_of_ble_eq_true rfl⟩) ⟨fun a U g mk q => ⟨q.1, q.2.1, kMJ_call q.2.2⟩, vk_recv hM.2.2.2.2.2.2.2.2 (i := 0) (by decide) (kSN hS hAN), fun U hU hW => ⟨rfl, hU, kMJ_kept hM hS hAN hU hW⟩⟩ rfl rfl hl.1 rfl (lv_room (Nat.le_of_ble_eq_true rfl)) dJ0_length_8abf5_6 ⟨Nat.le_of_ble_eq_true rfl, Nat.le_of_ble_eq_true rfl⟩) ?_
  refine W.eq (g2 := F0 m 9 ls [.int 0, .int (iZ 0)]) rfl ?_
  refine kz_ishr0 hx hb dJ0_length_8abf5_9 ?_
  exact W.iret (v := iZ 0) hx hb hr9 (fun t ht hW => ⟨rfl, ht⟩) (fun q h => by cases h) dJ0_length_8abf5_10

section
variable {p : Program} {l : Launch} {e : Env} {R : Room} {s : State} {m : MethodId} {args : Array Value} {below : List Frame} {meth : Method} {c : Code} {H : Heap} {locs : List Loc} {cells slots : Nat} {Q : State → Prop}
variable {cc : ByteArray} {pc : Nat} {ls : Array Slot} {rest : List Value} {D : va_G} {cl : List vw_C} {A : Nat → Prop} {a : Nat} {ws : va_W} {H0 : Heap} {dA : Nat → ClassId}
theorem kz_copy0 (hx : p.tables.exec = Jvm.exec) (hb : c.code = cc) (hml : c.maxLocals = ls.size) {own : String} {index : Nat} (hown : s.vm.findClass own = some m.cls) (hlink : (Cond.methodLink own index arraycopyName).before args s = true) (hnat : (Cond.native arraycopyName).before args s = true) (hstat : (Cond.static arraycopyName).before args s = true) (hini : (Cond.initialized "java/lang/System").before args s = true)
    (hK : va_K D cl (kT dA) s) (hP : va_P D cl ws H) (hD : va_D A ws) (hS : va_S A s.heap H locs) {b0 : Nat} {k : Nat → Nat} {f : Nat → Int32} (hX : va_T .byte b0 0 (fun j => .int (f j)) (kN0 k) s s.heap) (hAN : ∀ q, A q → k 0 ≤ q) (q1 : Nat) {n1 : Nat} {g : Nat → Int} (ha1 : ws[q1]? = some (a, .inl (dA 2, n1, .inl (fun j => iZ (g j))))) {z : Int} (hz : 0 ≤ z ∧ z ≤ n1 ∧ z < 65536)
    (hframes : 1 ≤ R.frames) (hlocals : (rest.map fun v => v.category).sum + (nativeFrameWords "java/lang/System" "arraycopy" 5 + 11) ≤ R.locals) (hdg : decode cc pc = .ok (.invokestatic index, 3))
    (kk : ∀ (H1 : Heap) (locs1 : List Loc), va_P D cl ws H1 → va_D A ws → va_S A s.heap H1 locs1 → W p l e R s m args below meth c H1 locs1 cells slots Q (F0 m (pc + 3) ls rest)) : W p l e R s m args below meth c H locs cells slots Q (F0 m pc ls (.int (iZ 0) :: .int (iZ z) :: .ref a :: .int (iZ 0) :: .ref b0 :: rest)) := by
  have c1 : (iZ z).toNatClampNeg = z.toNat := iZ_cl ⟨by omega, by omega⟩
  have c0 : (iZ 0).toNatClampNeg = 0 := rfl
  have n1' : ¬ iZ z < 0 := fun q => by
    have h9 := (iZ_lt (a := z) (b := 0) ⟨by omega, by omega⟩ (by decide)).mp q
    omega
  have hl : q1 < ws.length := (List.getElem?_eq_some_iff.mp ha1).1
  refine vk_copyt hx hb hml hown hlink hnat hstat hini hK hP hD hS (hX.narrow (fun q h => hAN q h)) q1 2 ha1 rfl (by decide) n1' (by decide) (by rw [c0]; exact Nat.le_refl 0) (by rw [c1, c0]; omega) (fun i h => absurd h (by rw [c0]; exact Nat.not_lt_zero i)) hframes hlocals hdg ?_
  rw [c0, show va_cpy f (fun j => iZ (g j)) 0 (iZ z).toNatClampNeg 0 = fun j => iZ (g j) from funext fun j => pk_cpy_out (by omega)]
  have e : ws.set q1 (a, .inl (dA 2, n1, .inl (fun j => iZ (g j)))) = ws := by
    apply List.ext_getElem?
    intro i
    by_cases h : q1 = i
    · subst h; rw [List.getElem?_set_self hl, ha1]
    · rw [List.getElem?_set_ne h]
  rw [e]
  exact kk
end
abbrev ww_J0_getBytes_840e7 : List Cond := .code yJ0_getBytes_840e7 cJ0_getBytes_840e7 4 none :: gT
set_option maxHeartbeats 4000000 in
set_option maxRecDepth 100000 in
theorem c_J0_getBytes_840e7C (l : Launch) (dC : Nat → ClassId) (dI : Nat → Nat → Nat) (dA : Nat → ClassId) (k : Nat → Nat) (b v : Nat) (g : Nat → Int) (tm : Int32) (n : Nat) (H0 : Heap) (hP : va_P (dC, dI) vwCl (kW b v dA g tm n) H0) (htm : tm = 0 ∨ tm = 1) (hbv : b ≠ v) (hkb : k 0 ≤ b) (hkv : k 0 ≤ v) (hg : kG g) (hn : n ≤ 16) (dd : Int) (h0 : 0 ≤ dd ∧ dd ≤ 16) : Met l yJ0_getBytes_840e7 ww_J0_getBytes_840e7 ({ frames := 1, cells := 0, slots := 0, locals := 80 }) (va_Pc [.ref (k 7), .ref v, .int (iZ dd), .int 0] (fun U => U.heap = H0 ∧ kMJ dC dI dA k U)) (kQ2 none (gW dC dI dA b v g n) (kAB b v H0.size)) 0 0 (kAB b v H0.size) := by
  refine va_MetF (cc := cJ0_getBytes_840e7) (maxL := 4) (ret := none) (by decide +kernel) rfl ?_
  intro p e s m args below meth c s₁ B hml hv
  obtain ⟨rfl, hH, hM⟩ := hv
  subst hH
  have hAN : ∀ a, kAB b v s.heap.size a → k 0 ≤ a := kAB_N hkb hkv hM.1.2.1.1
  have hS : va_S (kAB b v s.heap.size) s.heap s.heap [] := va_S.rf
  have hD : va_D (kAB b v s.heap.size) ([(b, .inr (1, [.ref v, .int 0, .int tm, .int (iZ (((n : Nat) : Int)))])), (v, .inl (dA 2, 16, .inl (fun j => iZ (g j))))] : va_W) := kW_D hbv
  have hP : va_P (dC, dI) vwCl ([(b, .inr (1, [.ref v, .int 0, .int tm, .int (iZ (((n : Nat) : Int)))])), (v, .inl (dA 2, 16, .inl (fun j => iZ (g j))))] : va_W) s.heap := hP
  have hx := B.exec
  have hb := B.bytes
  have hr9 := B.returns
  have hts := atoms_spec (ws := ww_J0_getBytes_840e7) B.pre
  have hown : s.vm.findClass RJ0 = some m.cls := findClass_of_methodNamed B.named
  have hlocks := B.notSynchronized
  have hl := lv_entry ([.ref (k 7), .ref v, .int (iZ dd), .int 0]) (n := 4) (Nat.le_of_ble_eq_true rfl)
  rw [lg_entry_eq]
  generalize (lg_sl ([.ref (k 7), .ref v, .int (iZ dd), .int 0]) ++ List.replicate (4 - (lg_sl ([.ref (k 7), .ref v, .int (iZ dd), .int 0])).length) Slot.unset).toArray = ls at hl ⊢
  have hl : lv_has ls 4 [(0, .ref (k 7)), (1, .ref v), (2, .int (iZ dd)), (3, .int 0)] := hl
  refine lv_aload_n hx hb dJ0_getBytes_840e7_0 rfl (lv_at hl 0 rfl) ?_
  refine kc0 (fun _ q => q) (va_runV (As := []) (rest := []) ⟨hx, hb, hml, hown, hts⟩ (c_J0_coder_7d493C l dC dI dA k _) (cwV 0 hts (kg_V mw329 mw330 mw331 mw45 rfl mw332) rfl rfl rfl hdV_J0_coder_7d493 ⟨Nat.le_of_ble_eq_true rfl, Nat.le_of_ble_eq_true rfl⟩) ⟨fun a U g mk q => ⟨q.1, q.2.1, kMJ_call q.2.2⟩, vk_recv hM.2.2.2.2.2.2.2.2 (i := 0) (by decide) (kSN hS hAN), fun U hU hW => ⟨rfl, hU, kMJ_kept hM hS hAN hU hW⟩⟩ rfl rfl hl.1 rfl (lv_room (Nat.le_of_ble_eq_true rfl)) dJ0_getBytes_840e7_1 ⟨Nat.le_of_ble_eq_true rfl, Nat.le_of_ble_eq_true rfl⟩) ?_
  refine lv_iload_n hx hb dJ0_getBytes_840e7_4 rfl (lv_at hl 3 rfl) ?_
  refine W.eq (g2 := F0 m 5 ls [.int (iZ 0), .int (iZ 0)]) rfl ?_
  refine kz_icmp_ne (tgt := 28) hx hb (by omega) (by omega) dJ0_getBytes_840e7_5 (by decide) (fun c_1 => absurd c_1 (by omega)) (fun c_1 => ?_)
  refine lv_aload_n hx hb dJ0_getBytes_840e7_8 rfl (lv_at hl 0 rfl) ?_
  refine vk_getf (v := .ref (k 8)) hx hb (hM.2.2.2.2.2.2.2.2.1 0 (by decide)).2.2.1 (kSN hS hAN) hown (hts _ (List.mem_cons_of_mem _ mw438)) (fun _ h9 => h9) dJ0_getBytes_840e7_9 ?_
  refine lv_iconst (v := iZ 0) hx hb dJ0_getBytes_840e7_12 rfl ?_
  refine lv_aload_n hx hb dJ0_getBytes_840e7_13 rfl (lv_at hl 1 rfl) ?_
  refine lv_iload_n hx hb dJ0_getBytes_840e7_14 rfl (lv_at hl 2 rfl) ?_
  refine lv_iload_n hx hb dJ0_getBytes_840e7_15 rfl (lv_at hl 3 rfl) ?_
  refine kz_ishl0 hx hb dJ0_getBytes_840e7_16 ?_
  refine lv_aload_n hx hb dJ0_getBytes_840e7_17 rfl (lv_at hl 0 rfl) ?_
  refine vk_getf (v := .ref (k 8)) hx hb (hM.2.2.2.2.2.2.2.2.1 0 (by decide)).2.2.1 (kSN hS hAN) hown (hts _ (List.mem_cons_of_mem _ mw438)) (fun _ h9 => h9) dJ0_getBytes_840e7_18 ?_
  refine va_tlen (v := iZ 0) hx hb (hM.2.2.2.2.2.2.2.2.1 0 (by decide)).2.2.2 (kSN hS hAN) rfl dJ0_getBytes_840e7_21 ?_
  refine kz_copy0 hx hb (by rw [hml]; exact hl.1.symm) hown (hts _ (List.mem_cons_of_mem _ mw363)) (hts _ (List.mem_cons_of_mem _ mw297)) (hts _ (List.mem_cons_of_mem _ mw296)) (hts _ (List.mem_cons_of_mem _ mw56)) hM.1.1 hP hD hS (hM.2.2.2.2.2.2.2.2.1 0 (by decide)).2.2.2 hAN 1 rfl (by omega) (Nat.le_of_ble_eq_true rfl) (Nat.le_of_ble_eq_true rfl) dJ0_getBytes_840e7_22 (fun H locs hP hD hS => ?_)
  have hP : va_P (dC, dI) vwCl ([(b, .inr (1, [.ref v, .int 0, .int tm, .int (iZ (((n : Nat) : Int)))])), (v, .inl (dA 2, 16, .inl (fun j => iZ (g j))))] : va_W) _ := hP
  have hD : va_D (kAB b v s.heap.size) ([(b, .inr (1, [.ref v, .int 0, .int tm, .int (iZ (((n : Nat) : Int)))])), (v, .inl (dA 2, 16, .inl (fun j => iZ (g j))))] : va_W) := hD
  refine lv_goto (tgt := 43) hx hb dJ0_getBytes_840e7_25 (by decide) ?_
  exact W.vret hx hb hr9 (fun t ht hW => ⟨⟨rfl, gW_cast ⟨_, htm, by rw [ht]; exact hP⟩ (show g = g from by rfl) rfl⟩, hS.F ht⟩) hS.2.2 dJ0_getBytes_840e7_43

abbrev ww_J5_inflateIfNeededFor_a7421 : List Cond := .code yJ5_inflateIfNeededFor_a7421 cJ5_inflateIfNeededFor_a7421 2 none :: gT
set_option maxHeartbeats 4000000 in
set_option maxRecDepth 100000 in
theorem c_J5_inflateIfNeededFor_a7421 (l : Launch) (dC : Nat → ClassId) (dI : Nat → Nat → Nat) (dA : Nat → ClassId) (k : Nat → Nat) (b v : Nat) (g : Nat → Int) (tm : Int32) (n : Nat) (H0 : Heap) (hP : va_P (dC, dI) vwCl (kW b v dA g tm n) H0) (htm : tm = 0 ∨ tm = 1) (hbv : b ≠ v) (hkb : k 0 ≤ b) (hkv : k 0 ≤ v) (hg : kG g) (hn : n ≤ 16)   : Met l yJ5_inflateIfNeededFor_a7421 ww_J5_inflateIfNeededFor_a7421 ({ frames := 1, cells := 0, slots := 0, locals := 20 }) (va_Pc [.ref b, .ref (k 7)] (fun U => U.heap = H0 ∧ kMJ dC dI dA k U)) (kQ0 (none) H0) 0 0 kN := by
  refine va_MetF (cc := cJ5_inflateIfNeededFor_a7421) (maxL := 2) (ret := none) (by decide +kernel) rfl ?_
  intro p e s m args below meth c s₁ B hml hv
  obtain ⟨rfl, hH, hM⟩ := hv
  subst hH
  have hAN : ∀ a, kAB b v s.heap.size a → k 0 ≤ a := kAB_N hkb hkv hM.1.2.1.1
  have hS : va_S (kAB b v s.heap.size) s.heap s.heap [] := va_S.rf
  have hD : va_D (kAB b v s.heap.size) ([(b, .inr (1, [.ref v, .int 0, .int tm, .int (iZ (((n : Nat) : Int)))])), (v, .inl (dA 2, 16, .inl (fun j => iZ (g j))))] : va_W) := kW_D hbv
  have hP : va_P (dC, dI) vwCl ([(b, .inr (1, [.ref v, .int 0, .int tm, .int (iZ (((n : Nat) : Int)))])), (v, .inl (dA 2, 16, .inl (fun j => iZ (g j))))] : va_W) s.heap := hP
  have hx := B.exec
  have hb := B.bytes
  have hr9 := B.returns
  have hts := atoms_spec (ws := ww_J5_inflateIfNeededFor_a7421) B.pre
  have hown : s.vm.findClass RJ5 = some m.cls := findClass_of_methodNamed B.named
  have hlocks := B.notSynchronized
  have hl := lv_entry ([.ref b, .ref (k 7)]) (n := 2) (Nat.le_of_ble_eq_true rfl)
  rw [lg_entry_eq]
  generalize (lg_sl ([.ref b, .ref (k 7)]) ++ List.replicate (2 - (lg_sl ([.ref b, .ref (k 7)])).length) Slot.unset).toArray = ls at hl ⊢
  have hl : lv_has ls 2 [(0, .ref b), (1, .ref (k 7))] := hl
  refine va_gets (v := .int 1) hx hb hM.2.1 (kSN hS hAN) hown (hts _ (List.mem_cons_of_mem _ mw80)) (fun _ h9 => h9) dJ5_inflateIfNeededFor_a7421_0 ?_
  refine W.eq (g2 := F0 m 3 ls [.int (iZ 1)]) rfl ?_
  refine kz_if_eq (tgt := 21) hx hb (by omega) dJ5_inflateIfNeededFor_a7421_3 (by decide) (fun c_1 => absurd c_1 (by omega)) (fun c_1 => ?_)
  refine lv_aload_n hx hb dJ5_inflateIfNeededFor_a7421_6 rfl (lv_at hl 0 rfl) ?_
  refine va_get (D := (dC, dI)) (ci := 1) (v := .int 0) (C := RJ4) (T := TJ4) (N := 4) hx hb hts (fun w h => List.mem_cons_of_mem _ (gF_3_in h)) hown hM.1.1 hP 0 rfl rfl 1 (by decide) (hts _ (List.mem_cons_of_mem _ mw89)) (fun _ h9 => h9) rfl dJ5_inflateIfNeededFor_a7421_7 ?_
  refine lv_aload_n hx hb dJ5_inflateIfNeededFor_a7421_10 rfl (lv_at hl 1 rfl) ?_
  refine kc0 (fun _ q => q) (va_runV (As := []) (rest := [.int 0]) ⟨hx, hb, hml, hown, hts⟩ (c_J0_coder_7d493C l dC dI dA k _) (cwV 0 hts (kg_V mw340 mw330 mw331 mw45 rfl mw332) rfl rfl rfl hdV_J0_coder_7d493 ⟨Nat.le_of_ble_eq_true rfl, Nat.le_of_ble_eq_true rfl⟩) ⟨fun a U g mk q => ⟨q.1, q.2.1, kMJ_call q.2.2⟩, vk_recv hM.2.2.2.2.2.2.2.2 (i := 0) (by decide) (kSN hS hAN), fun U hU hW => ⟨rfl, hU, kMJ_kept hM hS hAN hU hW⟩⟩ rfl rfl hl.1 rfl (lv_room (Nat.le_of_ble_eq_true rfl)) dJ5_inflateIfNeededFor_a7421_11 ⟨Nat.le_of_ble_eq_true rfl, Nat.le_of_ble_eq_true rfl⟩) ?_
  refine W.eq (g2 := F0 m 14 ls [.int (iZ 0), .int (iZ 0)]) rfl ?_
  refine kz_icmp_eq (tgt := 21) hx hb (by omega) (by omega) dJ5_inflateIfNeededFor_a7421_14 (by decide) (fun c_2 => ?_) (fun c_2 => absurd c_2 (by omega))
  exact W.vret hx hb hr9 (fun t ht hW => ⟨rfl, ht⟩) (fun q h => by cases h) dJ5_inflateIfNeededFor_a7421_21

abbrev ww_J5_putStringAt_47b60 : List Cond := .code yJ5_putStringAt_47b60 cJ5_putStringAt_47b60 3 none :: gT
set_option maxHeartbeats 4000000 in
set_option maxRecDepth 100000 in
theorem c_J5_putStringAt_47b60 (l : Launch) (dC : Nat → ClassId) (dI : Nat → Nat → Nat) (dA : Nat → ClassId) (k : Nat → Nat) (b v : Nat) (g : Nat → Int) (tm : Int32) (n : Nat) (H0 : Heap) (hP : va_P (dC, dI) vwCl (kW b v dA g tm n) H0) (htm : tm = 0 ∨ tm = 1) (hbv : b ≠ v) (hkb : k 0 ≤ b) (hkv : k 0 ≤ v) (hg : kG g) (hn : n ≤ 16) (dd : Int) (h0 : 0 ≤ dd ∧ dd ≤ 16) : Met l yJ5_putStringAt_47b60 ww_J5_putStringAt_47b60 ({ frames := 2, cells := 0, slots := 0, locals := 103 }) (va_Pc [.ref b, .int (iZ dd), .ref (k 7)] (fun U => U.heap = H0 ∧ kMJ dC dI dA k U)) (kQ2 (none) (gW dC dI dA b v g n) (kAB b v H0.size)) 0 0 (kAB b v H0.size) := by
  refine va_MetF (cc := cJ5_putStringAt_47b60) (maxL := 3) (ret := none) (by decide +kernel) rfl ?_
  intro p e s m args below meth c s₁ B hml hv
  obtain ⟨rfl, hH, hM⟩ := hv
  subst hH
  have hAN : ∀ a, kAB b v s.heap.size a → k 0 ≤ a := kAB_N hkb hkv hM.1.2.1.1
  have hS : va_S (kAB b v s.heap.size) s.heap s.heap [] := va_S.rf
  have hD : va_D (kAB b v s.heap.size) ([(b, .inr (1, [.ref v, .int 0, .int tm, .int (iZ (((n : Nat) : Int)))])), (v, .inl (dA 2, 16, .inl (fun j => iZ (g j))))] : va_W) := kW_D hbv
  have hP : va_P (dC, dI) vwCl ([(b, .inr (1, [.ref v, .int 0, .int tm, .int (iZ (((n : Nat) : Int)))])), (v, .inl (dA 2, 16, .inl (fun j => iZ (g j))))] : va_W) s.heap := hP
  have hx := B.exec
  have hb := B.bytes
  have hr9 := B.returns
  have hts := atoms_spec (ws := ww_J5_putStringAt_47b60) B.pre
  have hown : s.vm.findClass RJ5 = some m.cls := findClass_of_methodNamed B.named
  have hlocks := B.notSynchronized
  have hl := lv_entry ([.ref b, .int (iZ dd), .ref (k 7)]) (n := 3) (Nat.le_of_ble_eq_true rfl)
  rw [lg_entry_eq]
  generalize (lg_sl ([.ref b, .int (iZ dd), .ref (k 7)]) ++ List.replicate (3 - (lg_sl ([.ref b, .int (iZ dd), .ref (k 7)])).length) Slot.unset).toArray = ls at hl ⊢
  have hl : lv_has ls 3 [(0, .ref b), (1, .int (iZ dd)), (2, .ref (k 7))] := hl
  refine lv_aload_n hx hb dJ5_putStringAt_47b60_0 rfl (lv_at hl 0 rfl) ?_
  refine lv_aload_n hx hb dJ5_putStringAt_47b60_1 rfl (lv_at hl 2 rfl) ?_
  refine kc0v (fun _ q => q) (va_runU (As := [.ref (k 7)]) (rest := []) ⟨hx, hb, hml, hown, hts⟩ (c_J5_inflateIfNeededFor_a7421 l dC dI dA k b v (g) (tm) (n) _ hP htm hbv hkb hkv hg (by omega) ) (va_cwU 1 hts (kg_U (C := RJ4) (owner := "java/lang/AbstractStringBuilder") (x := ⟨"java/lang/AbstractStringBuilder", "inflateIfNeededFor", "(Ljava/lang/String;)V"⟩) mw337 mw1449 mwS3 mw338 mw43 rfl mw339) rfl rfl rfl rfl (by decide +kernel) ⟨Nat.le_of_ble_eq_true rfl, Nat.le_of_ble_eq_true rfl⟩) ⟨fun a U g mk q => ⟨q.1, q.2.1, kMJ_call q.2.2⟩, va_recv hM.1.1 hP (ci := 1) (q0 := 0) rfl rfl, fun U hU hW => ⟨rfl, hU, kMJ_kept hM hS hAN hU hW⟩⟩ rfl rfl hl.1 rfl (lv_room (Nat.le_of_ble_eq_true rfl)) dJ5_putStringAt_47b60_2 ⟨Nat.le_of_ble_eq_true rfl, Nat.le_of_ble_eq_true rfl⟩) ?_
  refine lv_aload_n hx hb dJ5_putStringAt_47b60_5 rfl (lv_at hl 2 rfl) ?_
  refine lv_aload_n hx hb dJ5_putStringAt_47b60_6 rfl (lv_at hl 0 rfl) ?_
  refine va_get (D := (dC, dI)) (ci := 1) (v := .ref v) (C := RJ4) (T := TJ4) (N := 4) hx hb hts (fun w h => List.mem_cons_of_mem _ (gF_3_in h)) hown hM.1.1 hP 0 rfl rfl 0 (by decide) (hts _ (List.mem_cons_of_mem _ mw88)) (fun _ h9 => h9) rfl dJ5_putStringAt_47b60_7 ?_
  refine lv_iload_n hx hb dJ5_putStringAt_47b60_10 rfl (lv_at hl 1 rfl) ?_
  refine lv_aload_n hx hb dJ5_putStringAt_47b60_11 rfl (lv_at hl 0 rfl) ?_
  refine va_get (D := (dC, dI)) (ci := 1) (v := .int 0) (C := RJ4) (T := TJ4) (N := 4) hx hb hts (fun w h => List.mem_cons_of_mem _ (gF_3_in h)) hown hM.1.1 hP 0 rfl rfl 1 (by decide) (hts _ (List.mem_cons_of_mem _ mw89)) (fun _ h9 => h9) rfl dJ5_putStringAt_47b60_12 ?_
  refine kc2 (va_runV (As := [.ref v, .int (iZ dd), .int 0]) (rest := []) ⟨hx, hb, hml, hown, hts⟩ (c_J0_getBytes_840e7C l dC dI dA k b v (g) (tm) (n) _ hP htm hbv hkb hkv hg (by omega) (dd) (by omega)) (cwV 3 hts (kg_V mw359 mw360 mw361 mw45 rfl mw362) rfl rfl rfl hdV_J0_getBytes_840e7 ⟨Nat.le_of_ble_eq_true rfl, Nat.le_of_ble_eq_true rfl⟩) ⟨fun a U g mk q => ⟨q.1, q.2.1, kMJ_call q.2.2⟩, vk_recv hM.2.2.2.2.2.2.2.2 (i := 0) (by decide) (kSN hS hAN), fun U hU hW => ⟨rfl, hU, kMJ_kept hM hS hAN hU hW⟩⟩ rfl rfl hl.1 rfl (lv_room (Nat.le_of_ble_eq_true rfl)) dJ5_putStringAt_47b60_15 ⟨Nat.le_of_ble_eq_true rfl, Nat.le_of_ble_eq_true rfl⟩) hS (fun a _ h => kAB_up hS.1 a h) (fun a h => kAB_up hS.1 a h) (fun H1 locs hG hz9 hk9 hS => ?_)
  obtain ⟨tm, htm, hP⟩ := hG
  have hP : va_P (dC, dI) vwCl ([(b, .inr (1, [.ref v, .int 0, .int tm, .int (iZ (((n : Nat) : Int)))])), (v, .inl (dA 2, 16, .inl (fun j => iZ (g j))))] : va_W) H1 := hP
  generalize H1 = H at hP hS ⊢
  have hD : va_D (kAB b v s.heap.size) ([(b, .inr (1, [.ref v, .int 0, .int tm, .int (iZ (((n : Nat) : Int)))])), (v, .inl (dA 2, 16, .inl (fun j => iZ (g j))))] : va_W) := kW_D hbv
  exact W.vret hx hb hr9 (fun t ht hW => ⟨⟨rfl, gW_cast ⟨_, htm, by rw [ht]; exact hP⟩ (show g = g from rfl) (show (n : Nat) = n from rfl)⟩, hS.F ht⟩) hS.2.2 dJ5_putStringAt_47b60_18

abbrev ww_J5_append_cf1ce : List Cond := .code yJ5_append_cf1ce cJ5_append_cf1ce 3 (some (.object "java/lang/AbstractStringBuilder")) :: gT
set_option maxHeartbeats 4000000 in
set_option maxRecDepth 100000 in
theorem c_J5_append_cf1ce (l : Launch) (dC : Nat → ClassId) (dI : Nat → Nat → Nat) (dA : Nat → ClassId) (k : Nat → Nat) (b v : Nat) (g : Nat → Int) (tm : Int32) (n : Nat) (H0 : Heap) (hP : va_P (dC, dI) vwCl (kW b v dA g tm n) H0) (htm : tm = 0 ∨ tm = 1) (hbv : b ≠ v) (hkb : k 0 ≤ b) (hkv : k 0 ≤ v) (hg : kG g) (hn : n ≤ 16)   : Met l yJ5_append_cf1ce ww_J5_append_cf1ce ({ frames := 3, cells := 0, slots := 0, locals := 125 }) (va_Pc [.ref b, .ref (k 7)] (fun U => U.heap = H0 ∧ kMJ dC dI dA k U)) (kQ2 (some (.ref b)) (gW dC dI dA b v g n) (kAB b v H0.size)) 0 0 (kAB b v H0.size) := by
  refine va_MetF (cc := cJ5_append_cf1ce) (maxL := 3) (ret := (some (.object "java/lang/AbstractStringBuilder"))) (by decide +kernel) rfl ?_
  intro p e s m args below meth c s₁ B hml hv
  obtain ⟨rfl, hH, hM⟩ := hv
  subst hH
  have hAN : ∀ a, kAB b v s.heap.size a → k 0 ≤ a := kAB_N hkb hkv hM.1.2.1.1
  have hS : va_S (kAB b v s.heap.size) s.heap s.heap [] := va_S.rf
  have hD : va_D (kAB b v s.heap.size) ([(b, .inr (1, [.ref v, .int 0, .int tm, .int (iZ (((n : Nat) : Int)))])), (v, .inl (dA 2, 16, .inl (fun j => iZ (g j))))] : va_W) := kW_D hbv
  have hP : va_P (dC, dI) vwCl ([(b, .inr (1, [.ref v, .int 0, .int tm, .int (iZ (((n : Nat) : Int)))])), (v, .inl (dA 2, 16, .inl (fun j => iZ (g j))))] : va_W) s.heap := hP
  have hx := B.exec
  have hb := B.bytes
  have hr9 := B.returns
  have hts := atoms_spec (ws := ww_J5_append_cf1ce) B.pre
  have hown : s.vm.findClass RJ5 = some m.cls := findClass_of_methodNamed B.named
  have hlocks := B.notSynchronized
  have hl := lv_entry ([.ref b, .ref (k 7)]) (n := 3) (Nat.le_of_ble_eq_true rfl)
  rw [lg_entry_eq]
  generalize (lg_sl ([.ref b, .ref (k 7)]) ++ List.replicate (3 - (lg_sl ([.ref b, .ref (k 7)])).length) Slot.unset).toArray = ls at hl ⊢
  have hl : lv_has ls 3 [(0, .ref b), (1, .ref (k 7))] := hl
  refine lv_aload_n hx hb dJ5_append_cf1ce_0 rfl (lv_at hl 1 rfl) ?_
  refine lv_ifnonnull (tgt := 9) hx hb dJ5_append_cf1ce_1 (by decide) ?_
  refine lv_aload_n hx hb dJ5_append_cf1ce_9 rfl (lv_at hl 1 rfl) ?_
  refine kc0 (fun _ q => q) (va_runV (As := []) (rest := []) ⟨hx, hb, hml, hown, hts⟩ (c_J0_length_8abf5C l dC dI dA k _) (cwV 0 hts (kg_V mw325 mw326 mw327 mw45 rfl mw328) rfl rfl rfl hdV_J0_length_8abf5 ⟨Nat.le_of_ble_eq_true rfl, Nat.le_of_ble_eq_true rfl⟩) ⟨fun a U g mk q => ⟨q.1, q.2.1, kMJ_call q.2.2⟩, vk_recv hM.2.2.2.2.2.2.2.2 (i := 0) (by decide) (kSN hS hAN), fun U hU hW => ⟨rfl, hU, kMJ_kept hM hS hAN hU hW⟩⟩ rfl rfl hl.1 rfl (lv_room (Nat.le_of_ble_eq_true rfl)) dJ5_append_cf1ce_10 ⟨Nat.le_of_ble_eq_true rfl, Nat.le_of_ble_eq_true rfl⟩) ?_
  refine lv_istore_n (lv' := [(2, .int (iZ 0)), (0, .ref b), (1, .ref (k 7))]) hx hb dJ5_append_cf1ce_13 rfl hl (by decide) rfl (fun ls hl => ?_)
  refine lv_aload_n hx hb dJ5_append_cf1ce_14 rfl (lv_at hl 1 rfl) ?_
  refine lv_aload_n hx hb dJ5_append_cf1ce_15 rfl (lv_at hl 1 rfl) ?_
  refine va_get (D := (dC, dI)) (ci := 1) (v := .int (iZ (((n : Nat) : Int)))) (C := RJ4) (T := TJ4) (N := 4) hx hb hts (fun w h => List.mem_cons_of_mem _ (gF_3_in h)) hown hM.1.1 hP 0 rfl rfl 3 (by decide) (hts _ (List.mem_cons_of_mem _ mw92)) (fun _ h9 => h9) rfl dJ5_append_cf1ce_16 ?_
  refine lv_iload_n hx hb dJ5_append_cf1ce_19 rfl (lv_at hl 0 rfl) ?_
  refine kz_iadd hx hb dJ5_append_cf1ce_20 ?_
  refine kc0v (fun _ q => q) (va_runU (As := [.int (iZ ((((n : Nat) : Int)) + 0))]) (rest := []) ⟨hx, hb, hml, hown, hts⟩ (c_J5_ensureCapacityInternal_d00df l dC dI dA k b v (g) (tm) (n) _ hP htm hbv hkb hkv hg (by omega) ((((n : Nat) : Int)) + 0) (by omega)) (va_cwU 1 hts (kg_U (C := RJ4) (owner := "java/lang/AbstractStringBuilder") (x := ⟨"java/lang/AbstractStringBuilder", "ensureCapacityInternal", "(I)V"⟩) mw266 mw1446 mwS0 mw267 mw43 rfl mw268) rfl rfl rfl rfl (by decide +kernel) ⟨Nat.le_of_ble_eq_true rfl, Nat.le_of_ble_eq_true rfl⟩) ⟨fun a U g mk q => ⟨q.1, q.2.1, kMJ_call q.2.2⟩, va_recv hM.1.1 hP (ci := 1) (q0 := 0) rfl rfl, fun U hU hW => ⟨rfl, hU, kMJ_kept hM hS hAN hU hW⟩⟩ rfl rfl hl.1 rfl (lv_room (Nat.le_of_ble_eq_true rfl)) dJ5_append_cf1ce_21 ⟨Nat.le_of_ble_eq_true rfl, Nat.le_of_ble_eq_true rfl⟩) ?_
  refine lv_aload_n hx hb dJ5_append_cf1ce_24 rfl (lv_at hl 1 rfl) ?_
  refine lv_aload_n hx hb dJ5_append_cf1ce_25 rfl (lv_at hl 1 rfl) ?_
  refine va_get (D := (dC, dI)) (ci := 1) (v := .int (iZ (((n : Nat) : Int)))) (C := RJ4) (T := TJ4) (N := 4) hx hb hts (fun w h => List.mem_cons_of_mem _ (gF_3_in h)) hown hM.1.1 hP 0 rfl rfl 3 (by decide) (hts _ (List.mem_cons_of_mem _ mw92)) (fun _ h9 => h9) rfl dJ5_append_cf1ce_26 ?_
  refine lv_aload_n hx hb dJ5_append_cf1ce_29 rfl (lv_at hl 2 rfl) ?_
  refine kc2 (va_runU (As := [.int (iZ (((n : Nat) : Int))), .ref (k 7)]) (rest := []) ⟨hx, hb, hml, hown, hts⟩ (c_J5_putStringAt_47b60 l dC dI dA k b v (g) (tm) (n) _ hP htm hbv hkb hkv hg (by omega) (((n : Nat) : Int)) (by omega)) (va_cwU 2 hts (kg_U (C := RJ4) (owner := "java/lang/AbstractStringBuilder") (x := ⟨"java/lang/AbstractStringBuilder", "putStringAt", "(ILjava/lang/String;)V"⟩) mw334 mw1448 mwS2 mw335 mw43 rfl mw336) rfl rfl rfl rfl (by decide +kernel) ⟨Nat.le_of_ble_eq_true rfl, Nat.le_of_ble_eq_true rfl⟩) ⟨fun a U g mk q => ⟨q.1, q.2.1, kMJ_call q.2.2⟩, va_recv hM.1.1 hP (ci := 1) (q0 := 0) rfl rfl, fun U hU hW => ⟨rfl, hU, kMJ_kept hM hS hAN hU hW⟩⟩ rfl rfl hl.1 rfl (lv_room (Nat.le_of_ble_eq_true rfl)) dJ5_append_cf1ce_30 ⟨Nat.le_of_ble_eq_true rfl, Nat.le_of_ble_eq_true rfl⟩) hS (fun a _ h => kAB_up hS.1 a h) (fun a h => kAB_up hS.1 a h) (fun H1 locs hG hz9 hk9 hS => ?_)
  obtain ⟨tm_1, htm_1, hP9⟩ := hG
  have hP : va_P (dC, dI) vwCl ([(b, .inr (1, [.ref v, .int 0, .int tm_1, .int (iZ (((n : Nat) : Int)))])), (v, .inl (dA 2, 16, .inl (fun j => iZ (g j))))] : va_W) H1 := hP9
  have hD : va_D (kAB b v s.heap.size) ([(b, .inr (1, [.ref v, .int 0, .int tm_1, .int (iZ (((n : Nat) : Int)))])), (v, .inl (dA 2, 16, .inl (fun j => iZ (g j))))] : va_W) := kW_D hbv
  generalize H1 = H at hP hS ⊢
  refine lv_aload_n hx hb dJ5_append_cf1ce_33 rfl (lv_at hl 1 rfl) ?_
  refine lv_dup hx hb dJ5_append_cf1ce_34 rfl ?_
  refine va_get (D := (dC, dI)) (ci := 1) (v := .int (iZ (((n : Nat) : Int)))) (C := RJ4) (T := TJ4) (N := 4) hx hb hts (fun w h => List.mem_cons_of_mem _ (gF_3_in h)) hown hM.1.1 hP 0 rfl rfl 3 (by decide) (hts _ (List.mem_cons_of_mem _ mw92)) (fun _ h9 => h9) rfl dJ5_append_cf1ce_35 ?_
  refine lv_iload_n hx hb dJ5_append_cf1ce_38 rfl (lv_at hl 0 rfl) ?_
  refine kz_iadd hx hb dJ5_append_cf1ce_39 ?_
  refine va_put (D := (dC, dI)) (ci := 1) (v := .int (iZ ((((n : Nat) : Int)) + 0))) (ty := .int) (C := RJ4) (T := TJ4) (N := 4) hx hb hts (fun w h => List.mem_cons_of_mem _ (gF_3_in h)) tyJ4 tyJ4_ok nmJ4 hown hM.1.1 hP hD hS 0 rfl rfl 3 (by decide) (hts _ (List.mem_cons_of_mem _ mw92)) (fun _ h9 => h9) rfl (by decide +kernel) rfl rfl (Nat.le_of_ble_eq_true rfl) dJ5_append_cf1ce_40 (fun H locs hP hD hS => ?_)
  have hP : va_P (dC, dI) vwCl ([(b, .inr (1, [.ref v, .int 0, .int tm_1, .int (iZ ((((n : Nat) : Int)) + 0))])), (v, .inl (dA 2, 16, .inl (fun j => iZ (g j))))] : va_W) _ := hP
  have hD : va_D (kAB b v s.heap.size) ([(b, .inr (1, [.ref v, .int 0, .int tm_1, .int (iZ ((((n : Nat) : Int)) + 0))])), (v, .inl (dA 2, 16, .inl (fun j => iZ (g j))))] : va_W) := hD
  refine lv_aload_n hx hb dJ5_append_cf1ce_43 rfl (lv_at hl 1 rfl) ?_
  have hP : va_P (dC, dI) vwCl (kW b v dA (g) (tm_1) (n)) _ := hP.sub [0, 1] rfl
  exact W.aret (rt := .object "java/lang/AbstractStringBuilder") hx hb hr9 (Or.inl ⟨_, rfl⟩) (Or.inr ⟨_, rfl⟩) (fun t ht hW => ⟨⟨rfl, gW_cast ⟨_, htm_1, by rw [ht]; exact hP⟩ (show g = g from rfl) (show (n : Nat) = n from rfl)⟩, hS.F ht⟩) hS.2.2 dJ5_append_cf1ce_44 hlocks

abbrev ww_J4_append_15ec4 : List Cond := .code yJ4_append_15ec4 cJ4_append_15ec4 2 (some (.object "java/lang/StringBuilder")) :: gT
set_option maxHeartbeats 4000000 in
set_option maxRecDepth 100000 in
theorem c_J4_append_15ec4 (l : Launch) (dC : Nat → ClassId) (dI : Nat → Nat → Nat) (dA : Nat → ClassId) (k : Nat → Nat) (b v : Nat) (g : Nat → Int) (tm : Int32) (n : Nat) (H0 : Heap) (hP : va_P (dC, dI) vwCl (kW b v dA g tm n) H0) (htm : tm = 0 ∨ tm = 1) (hbv : b ≠ v) (hkb : k 0 ≤ b) (hkv : k 0 ≤ v) (hg : kG g) (hn : n ≤ 16)   : Met l yJ4_append_15ec4 ww_J4_append_15ec4 ({ frames := 4, cells := 0, slots := 0, locals := 147 }) (va_Pc [.ref b, .ref (k 7)] (fun U => U.heap = H0 ∧ kMJ dC dI dA k U)) (kQ2 (some (.ref b)) (gW dC dI dA b v g n) (kAB b v H0.size)) 0 0 (kAB b v H0.size) := by
  refine va_MetF (cc := cJ4_append_15ec4) (maxL := 2) (ret := (some (.object "java/lang/StringBuilder"))) (by decide +kernel) rfl ?_
  intro p e s m args below meth c s₁ B hml hv
  obtain ⟨rfl, hH, hM⟩ := hv
  subst hH
  have hAN : ∀ a, kAB b v s.heap.size a → k 0 ≤ a := kAB_N hkb hkv hM.1.2.1.1
  have hS : va_S (kAB b v s.heap.size) s.heap s.heap [] := va_S.rf
  have hD : va_D (kAB b v s.heap.size) ([(b, .inr (1, [.ref v, .int 0, .int tm, .int (iZ (((n : Nat) : Int)))])), (v, .inl (dA 2, 16, .inl (fun j => iZ (g j))))] : va_W) := kW_D hbv
  have hP : va_P (dC, dI) vwCl ([(b, .inr (1, [.ref v, .int 0, .int tm, .int (iZ (((n : Nat) : Int)))])), (v, .inl (dA 2, 16, .inl (fun j => iZ (g j))))] : va_W) s.heap := hP
  have hx := B.exec
  have hb := B.bytes
  have hr9 := B.returns
  have hts := atoms_spec (ws := ww_J4_append_15ec4) B.pre
  have hown : s.vm.findClass RJ4 = some m.cls := findClass_of_methodNamed B.named
  have hlocks := B.notSynchronized
  have hl := lv_entry ([.ref b, .ref (k 7)]) (n := 2) (Nat.le_of_ble_eq_true rfl)
  rw [lg_entry_eq]
  generalize (lg_sl ([.ref b, .ref (k 7)]) ++ List.replicate (2 - (lg_sl ([.ref b, .ref (k 7)])).length) Slot.unset).toArray = ls at hl ⊢
  have hl : lv_has ls 2 [(0, .ref b), (1, .ref (k 7))] := hl
  refine lv_aload_n hx hb dJ4_append_15ec4_0 rfl (lv_at hl 0 rfl) ?_
  refine lv_aload_n hx hb dJ4_append_15ec4_1 rfl (lv_at hl 1 rfl) ?_
  refine kc2 (va_runSU (As := [.ref (k 7)]) (rest := []) ((hM.1.1.1 1 _ rfl).2) ⟨hx, hb, hml, hown, hts⟩ (c_J5_append_cf1ce l dC dI dA k b v (g) (tm) (n) _ hP htm hbv hkb hkv hg (by omega) ) (va_cwSU 1 hts (kg_SU mw260 mw1444 mw93 mw261 mw43 rfl mw262) rfl rfl rfl (by decide +kernel) ⟨Nat.le_of_ble_eq_true rfl, Nat.le_of_ble_eq_true rfl⟩) ⟨fun a U g mk q => ⟨q.1, q.2.1, kMJ_call q.2.2⟩, va_recv hM.1.1 hP (ci := 1) (q0 := 0) rfl rfl, fun U hU hW => ⟨rfl, hU, kMJ_kept hM hS hAN hU hW⟩⟩ rfl rfl hl.1 rfl (lv_room (Nat.le_of_ble_eq_true rfl)) dJ4_append_15ec4_2 ⟨Nat.le_of_ble_eq_true rfl, Nat.le_of_ble_eq_true rfl⟩) hS (fun a _ h => kAB_up hS.1 a h) (fun a h => kAB_up hS.1 a h) (fun H1 locs hG hz9 hk9 hS => ?_)
  obtain ⟨tm_1, htm_1, hP9⟩ := hG
  have hP : va_P (dC, dI) vwCl ([(b, .inr (1, [.ref v, .int 0, .int tm_1, .int (iZ (((n : Nat) : Int)))])), (v, .inl (dA 2, 16, .inl (fun j => iZ (g j))))] : va_W) H1 := hP9
  have hD : va_D (kAB b v s.heap.size) ([(b, .inr (1, [.ref v, .int 0, .int tm_1, .int (iZ (((n : Nat) : Int)))])), (v, .inl (dA 2, 16, .inl (fun j => iZ (g j))))] : va_W) := kW_D hbv
  generalize H1 = H at hP hS ⊢
  refine lv_pop hx hb dJ4_append_15ec4_5 rfl ?_
  refine lv_aload_n hx hb dJ4_append_15ec4_6 rfl (lv_at hl 0 rfl) ?_
  exact W.aret (rt := .object "java/lang/StringBuilder") hx hb hr9 (Or.inl ⟨_, rfl⟩) (Or.inr ⟨_, rfl⟩) (fun t ht hW => ⟨⟨rfl, gW_cast ⟨_, htm_1, by rw [ht]; exact hP⟩ (show g = g from rfl) (show (n : Nat) = n from rfl)⟩, hS.F ht⟩) hS.2.2 dJ4_append_15ec4_7 hlocks

