/-! the reference's world -/
theorem kassign (vm : Vm) (c : ClassId) : vm.assignable c c = true := by
  show vm.assignableAux (255 + 1) c c = true
  rw [Vm.assignableAux]
  simp
def row2 (a b : Int) : Nat → Int32 := upd (upd (fun _ => 0) 0 (iZ a)) 1 (iZ b)
def row3 (a b d : Int) : Nat → Int32 := upd (upd (upd (fun _ => 0) 0 (iZ a)) 1 (iZ b)) 2 (iZ d)
def kY (dA : Nat → ClassId) (m0 : Nat) (r : Nat → Nat → Nat) (σ : Nat → Nat → Int) (th : Int) : va_W :=
  [(m0, .inr (6, [.ref (r 0 1), .ref (r 0 2), .ref (r 0 3), .ref (r 0 4), .int (iZ (σ 8 0)), .int (iZ th)])),
   (r 0 1, .inl (dA 3, 4, .inr (.inr (.inr (.inr (fun j => some (r 1 j))))))),
   (r 0 2, .inl (dA 0, 4, .inl (fun j => iZ (σ 2 j)))),
   (r 0 3, .inl (dA 3, 4, .inr (.inr (.inr (.inr (fun j => some (r 2 j))))))),
   (r 0 4, .inl (dA 3, 4, .inr (.inr (.inr (.inr (fun j => some (r 3 j))))))),
   (r 1 0, .inl (dA 0, 2, .inl (row2 (σ 0 0) (σ 1 0)))),
   (r 1 1, .inl (dA 0, 2, .inl (row2 (σ 0 1) (σ 1 1)))),
   (r 1 2, .inl (dA 0, 2, .inl (row2 (σ 0 2) (σ 1 2)))),
   (r 1 3, .inl (dA 0, 2, .inl (row2 (σ 0 3) (σ 1 3)))),
   (r 2 0, .inl (dA 0, 2, .inl (row2 (σ 3 0) (σ 4 0)))),
   (r 2 1, .inl (dA 0, 2, .inl (row2 (σ 3 1) (σ 4 1)))),
   (r 2 2, .inl (dA 0, 2, .inl (row2 (σ 3 2) (σ 4 2)))),
   (r 2 3, .inl (dA 0, 2, .inl (row2 (σ 3 3) (σ 4 3)))),
   (r 3 0, .inl (dA 0, 3, .inl (row3 (σ 5 0) (σ 6 0) (σ 7 0)))),
   (r 3 1, .inl (dA 0, 3, .inl (row3 (σ 5 1) (σ 6 1) (σ 7 1)))),
   (r 3 2, .inl (dA 0, 3, .inl (row3 (σ 5 2) (σ 6 2) (σ 7 2)))),
   (r 3 3, .inl (dA 0, 3, .inl (row3 (σ 5 3) (σ 6 3) (σ 7 3))))]
theorem kY_L {dA : Nat → ClassId} {m0 : Nat} {r : Nat → Nat → Nat} {σ : Nat → Nat → Int} {th : Int} (T : va_W) : ∀ {j : Nat}, j < 4 → (kY dA m0 r σ th ++ T)[5 + j]? = some (r 1 j, .inl (dA 0, 2, .inl (row2 (σ 0 j) (σ 1 j))))
  | 0, _ => rfl | 1, _ => rfl | 2, _ => rfl | 3, _ => rfl | n + 4, h => absurd h (by omega)
theorem kY_F {dA : Nat → ClassId} {m0 : Nat} {r : Nat → Nat → Nat} {σ : Nat → Nat → Int} {th : Int} (T : va_W) : ∀ {j : Nat}, j < 4 → (kY dA m0 r σ th ++ T)[9 + j]? = some (r 2 j, .inl (dA 0, 2, .inl (row2 (σ 3 j) (σ 4 j))))
  | 0, _ => rfl | 1, _ => rfl | 2, _ => rfl | 3, _ => rfl | n + 4, h => absurd h (by omega)
theorem kY_D {dA : Nat → ClassId} {m0 : Nat} {r : Nat → Nat → Nat} {σ : Nat → Nat → Int} {th : Int} (T : va_W) : ∀ {j : Nat}, j < 4 → (kY dA m0 r σ th ++ T)[13 + j]? = some (r 3 j, .inl (dA 0, 3, .inl (row3 (σ 5 j) (σ 6 j) (σ 7 j))))
  | 0, _ => rfl | 1, _ => rfl | 2, _ => rfl | 3, _ => rfl | n + 4, h => absurd h (by omega)
def kR (m0 : Nat) (r : Nat → Nat → Nat) : Nat → Nat | 0 => m0 | 1 => r 0 1 | 2 => r 0 2 | 3 => r 0 3 | 4 => r 0 4 | n + 5 => if n < 4 then r 1 n else if n < 8 then r 2 (n - 4) else r 3 (n - 8)
def kRI (m0 : Nat) (r : Nat → Nat → Nat) (k : Nat → Nat) : Prop := (∀ i j : Nat, i < 17 → j < 17 → kR m0 r i = kR m0 r j → i = j) ∧ ∀ i : Nat, i < 17 → k 0 ≤ kR m0 r i
def kAy (m0 : Nat) (r : Nat → Nat → Nat) (sz : Nat) : Nat → Prop := fun a => (∃ i : Nat, i < 17 ∧ a = kR m0 r i) ∨ sz ≤ a
theorem kY_at {dA : Nat → ClassId} {m0 : Nat} {r : Nat → Nat → Nat} {σ : Nat → Nat → Int} {th : Int} {i : Nat} {p : Nat × va_E} (h : (kY dA m0 r σ th)[i]? = some p) : i < 17 ∧ p.1 = kR m0 r i := by
  have hl : i < 17 := by
    have := (List.getElem?_eq_some_iff.mp h).1
    exact this
  refine ⟨hl, ?_⟩
  match i, hl, h with
  | 0, _, h => cases h; rfl
  | 1, _, h => cases h; rfl
  | 2, _, h => cases h; rfl
  | 3, _, h => cases h; rfl
  | 4, _, h => cases h; rfl
  | 5, _, h => cases h; rfl
  | 6, _, h => cases h; rfl
  | 7, _, h => cases h; rfl
  | 8, _, h => cases h; rfl
  | 9, _, h => cases h; rfl
  | 10, _, h => cases h; rfl
  | 11, _, h => cases h; rfl
  | 12, _, h => cases h; rfl
  | 13, _, h => cases h; rfl
  | 14, _, h => cases h; rfl
  | 15, _, h => cases h; rfl
  | 16, _, h => cases h; rfl
  | n + 17, hl, _ => exact absurd hl (by omega)
theorem kY_DD {m0 : Nat} {r : Nat → Nat → Nat} {k : Nat → Nat} (hr : kRI m0 r k) {dA : Nat → ClassId} {σ : Nat → Nat → Int} {th : Int} {sz : Nat} : va_D (kAy m0 r sz) (kY dA m0 r σ th) :=
  ⟨fun i j p p2 h1 h2 e => by
    obtain ⟨a1, a2⟩ := kY_at h1
    obtain ⟨b1, b2⟩ := kY_at h2
    exact hr.1 i j a1 b1 (by rw [← a2, ← b2, e]), fun i p h => by
    obtain ⟨a1, a2⟩ := kY_at h
    exact Or.inl ⟨i, a1, a2⟩⟩
theorem kAy_N {m0 : Nat} {r : Nat → Nat → Nat} {k : Nat → Nat} (hr : kRI m0 r k) {sz : Nat} (hk : k 0 ≤ sz) : ∀ a, kAy m0 r sz a → k 0 ≤ a := fun a h => by
  rcases h with ⟨i, hi, rfl⟩ | h
  · exact hr.2 i hi
  · exact Nat.le_trans hk h
theorem kAy_new {m0 : Nat} {r : Nat → Nat → Nat} {sz : Nat} : ∀ q, sz ≤ q → kAy m0 r sz q := fun _ h => Or.inr h
def upN (r : Nat → Nat → Nat) (b n v : Nat) : Nat → Nat → Nat := fun b' i => if b' = b ∧ i = n then v else r b' i
/-- the reference's object m0 with the state σ and what it threw last; its cells are old ones of r or new -/
def gY (dC : Nat → ClassId) (dI : Nat → Nat → Nat) (dA : Nat → ClassId) (k : Nat → Nat) (m0 : Nat) (r : Nat → Nat → Nat) (sz : Nat) (σ : Nat → Nat → Int) (th : Int) (H : Heap) : Prop :=
  ∃ r' : Nat → Nat → Nat, kRI m0 r' k ∧ (∀ i : Nat, i < 17 → kAy m0 r sz (kR m0 r' i)) ∧ va_P (dC, dI) vwCl (kY dA m0 r' σ th) H
theorem gY_cast {dC : Nat → ClassId} {dI : Nat → Nat → Nat} {dA : Nat → ClassId} {k : Nat → Nat} {m0 : Nat} {r : Nat → Nat → Nat} {sz : Nat} {σ σ' : Nat → Nat → Int} {th th' : Int} {H : Heap} (h : gY dC dI dA k m0 r sz σ th H) (e : σ = σ') (e2 : th = th') : gY dC dI dA k m0 r sz σ' th' H := e ▸ e2 ▸ h
theorem gY_id {dC : Nat → ClassId} {dI : Nat → Nat → Nat} {dA : Nat → ClassId} {k : Nat → Nat} {m0 : Nat} {r : Nat → Nat → Nat} (hr : kRI m0 r k) {sz : Nat} {σ : Nat → Nat → Int} {th : Int} {H : Heap} (h : va_P (dC, dI) vwCl (kY dA m0 r σ th) H) : gY dC dI dA k m0 r sz σ th H := ⟨r, hr, fun i hi => Or.inl ⟨i, hi, rfl⟩, h⟩
/-- a new row v at the place n of r -/
theorem kR_up {m0 : Nat} {r : Nat → Nat → Nat} {b n v : Nat} (hb : 1 ≤ b ∧ b ≤ 3) (hn : n < 4) {i : Nat} (hi : i < 17) : kR m0 (upN r b n v) i = if i = 4 * b + 1 + n then v else kR m0 r i := by
  obtain ⟨h1, h2⟩ := hb
  match i, hi with
  | 0, _ => rw [if_neg (by omega)]; rfl
  | 1, _ => rw [if_neg (by omega)]; show (if 0 = b ∧ 1 = n then v else r 0 1) = _; rw [if_neg (by omega)]; rfl
  | 2, _ => rw [if_neg (by omega)]; show (if 0 = b ∧ 2 = n then v else r 0 2) = _; rw [if_neg (by omega)]; rfl
  | 3, _ => rw [if_neg (by omega)]; show (if 0 = b ∧ 3 = n then v else r 0 3) = _; rw [if_neg (by omega)]; rfl
  | 4, _ => rw [if_neg (by omega)]; show (if 0 = b ∧ 4 = n then v else r 0 4) = _; rw [if_neg (by omega)]; rfl
  | j + 5, hi =>
    show (if j < 4 then (if 1 = b ∧ j = n then v else r 1 j) else if j < 8 then (if 2 = b ∧ j - 4 = n then v else r 2 (j - 4)) else (if 3 = b ∧ j - 8 = n then v else r 3 (j - 8))) = if j + 5 = 4 * b + 1 + n then v else (if j < 4 then r 1 j else if j < 8 then r 2 (j - 4) else r 3 (j - 8))
    (repeat' split) <;> first | rfl | omega
theorem kRI_up {m0 : Nat} {r : Nat → Nat → Nat} {k : Nat → Nat} (hr : kRI m0 r k) {b n v : Nat} (hb : 1 ≤ b ∧ b ≤ 3) (hn : n < 4) (hv : k 0 ≤ v) (hd : ∀ i : Nat, i < 17 → v ≠ kR m0 r i) : kRI m0 (upN r b n v) k := by
  constructor
  · intro i j hi hj e
    rw [kR_up hb hn hi, kR_up hb hn hj] at e
    by_cases h1 : i = 4 * b + 1 + n <;> by_cases h2 : j = 4 * b + 1 + n
    · omega
    · rw [if_pos h1, if_neg h2] at e; exact absurd e (hd j hj)
    · rw [if_neg h1, if_pos h2] at e; exact absurd e.symm (hd i hi)
    · rw [if_neg h1, if_neg h2] at e; exact hr.1 i j hi hj e
  · intro i hi
    rw [kR_up hb hn hi]
    split
    · exact hv
    · exact hr.2 i hi
theorem kap {dA : Nat → ClassId} {m0 : Nat} {r : Nat → Nat → Nat} {σ : Nat → Nat → Int} {th : Int} : kY dA m0 r σ th = kY dA m0 r σ th ++ [] := (List.append_nil _).symm
theorem kfreshY {dA : Nat → ClassId} {m0 : Nat} {r : Nat → Nat → Nat} {σ : Nat → Nat → Int} {th : Int} {A : Nat → Prop} {v : Nat} {e : va_E} (hD : va_D A (kY dA m0 r σ th ++ [(v, e)])) : ∀ i : Nat, i < 17 → v ≠ kR m0 r i := by
  intro i hi h
  have hg : ∃ e2, (kY dA m0 r σ th ++ [(v, e)])[i]? = some (kR m0 r i, e2) := by
    have hl : (kY dA m0 r σ th)[i]? = some ((kY dA m0 r σ th)[i]'hi) := List.getElem?_eq_getElem hi
    obtain ⟨-, a2⟩ := kY_at hl
    exact ⟨((kY dA m0 r σ th)[i]'hi).2, by rw [List.getElem?_append_left hi, hl, ← a2]⟩
  obtain ⟨e2, hg⟩ := hg
  have h17 : (kY dA m0 r σ th ++ [(v, e)])[17]? = some (v, e) := rfl
  have := hD.1 i 17 _ _ hg h17 h.symm
  omega
section
variable {p : Program} {l : Launch} {e : Env} {R : Room} {s : State} {m : MethodId} {args : Array Value} {below : List Frame} {meth : Method} {c : Code} {H : Heap} {locs : List Loc} {cells slots : Nat} {Q : State → Prop}
variable {cc : ByteArray} {pc : Nat} {ls : Array Slot} {rest : List Value} {D : va_G} {cl : List vw_C} {A : Nat → Prop} {a : Nat} {ws : va_W} {H0 : Heap} {dA : Nat → ClassId}
theorem kz_iast (hx : p.tables.exec = Jvm.exec) (hb : c.code = cc) (hK : va_K D cl (kT dA) s) (hP : va_P D cl ws H) (hD : va_D A ws) (hS : va_S A H0 H locs) (q0 : Nat) {n : Nat} {f : Nat → Int32} (ha : ws[q0]? = some (a, .inl (dA 0, n, .inl f))) {z v : Int} (hz : 0 ≤ z ∧ z < n) (hn : n < 2147483648) (hdg : decode cc pc = .ok (.iastore, 1))
    (kk : ∀ (H1 : Heap) (locs1 : List Loc), va_P D cl (ws.set q0 (a, .inl (dA 0, n, .inl (upd f z.toNat (iZ v))))) H1 → va_D A (ws.set q0 (a, .inl (dA 0, n, .inl (upd f z.toNat (iZ v))))) → va_S A H0 H1 locs1 → W p l e R s m args below meth c H1 locs1 cells slots Q (F0 m (pc + 1) ls rest)) : W p l e R s m args below meth c H locs cells slots Q (F0 m pc ls (.int (iZ v) :: .int (iZ z) :: .ref a :: rest)) := by
  refine va_iast hx hb hK hP hD hS q0 0 ha rfl (iZ_idx hz hn) hdg ?_
  rw [iZ_cl ⟨by omega, by omega⟩]
  exact kk
theorem kz_newI (hx : p.tables.exec = Jvm.exec) (hb : c.code = cc) (harr : (Cond.arrayClass .int).before args s = true) (hK : va_K D cl (kT dA) s) (hP : va_P D cl ws H) (hD : va_D A ws) (hS : va_S A H0 H locs) (hA : ∀ q, H0.size ≤ q → A q) {N : Nat} (hN : N < 1000) (hcells : cells + 1 ≤ R.cells) (hslots : slots + N ≤ R.slots) (hdg : decode cc pc = .ok (.newarray .int, 2))
    (kk : ∀ (q : Nat) (H1 : Heap), va_P D cl (ws ++ [(q, .inl (dA 0, N, .inl (fun _ => 0)))]) H1 → va_D A (ws ++ [(q, .inl (dA 0, N, .inl (fun _ => 0)))]) → va_S A H0 H1 locs → W p l e R s m args below meth c H1 locs (cells + 1) (slots + N) Q (F0 m (pc + 2) ls (.ref q :: rest))) : W p l e R s m args below meth c H locs cells slots Q (F0 m pc ls (.int (iZ (N : Int)) :: rest)) := by
  have hT := iZ_toInt (z := (N : Int)) ⟨by omega, by omega⟩
  refine va_newa (atype := .int) (ty := .int) (a0 := (N, .inl (fun _ => 0))) hx hb harr rfl hK hP hD hS hA (fun cA => rfl) (fun q => by rw [Int32.lt_iff_toInt_lt, hT] at q; exact absurd q (by rw [show (0 : Int32).toInt = 0 from rfl]; omega)) (N' := N) (by rw [iZ_cl ⟨by omega, by omega⟩]; rfl) (by show N * 4 ≤ 536870912; omega) hcells hslots hdg (fun q cA H1 hK1 hP1 hD1 hS1 => ?_)
  have e1 : s.vm.findClass ("[" ++ FieldType.int.toString) = some (dA 0) := (hK.2 0 _ rfl).2
  have e2 : s.vm.findClass ("[" ++ FieldType.int.toString) = some cA := (hK1.2 4 _ rfl).2
  have e3 : cA = dA 0 := Option.some.inj (e2.symm.trans e1)
  subst e3
  exact kk q H1 hP1 hD1 hS1
theorem kz_aald (hx : p.tables.exec = Jvm.exec) (hb : c.code = cc) (hK : va_K D cl (kT dA) s) (hP : va_P D cl ws H) (q0 : Nat) {n : Nat} {f : Nat → Option Nat} (ha : ws[q0]? = some (a, .inl (dA 3, n, .inr (.inr (.inr (.inr f)))))) {z : Int} {v : Nat} (hz : 0 ≤ z ∧ z < n) (hn : n < 2147483648) (hv : f z.toNat = some v) (hdg : decode cc pc = .ok (.aaload, 1))
    (kk : W p l e R s m args below meth c H locs cells slots Q (F0 m (pc + 1) ls (.ref v :: rest))) : W p l e R s m args below meth c H locs cells slots Q (F0 m pc ls (.int (iZ z) :: .ref a :: rest)) := by
  have hlt : (iZ z).toNatClampNeg < n := by rw [iZ_cl ⟨by omega, by omega⟩]; omega
  refine W.aald (v := va_rf (f (iZ z).toNatClampNeg)) (ty := .array .int) hx hb (hP q0 _ ha) ((hK.2 3 _ rfl).1 n (fun j => va_rf (f j))) rfl (fun q => by cases q) (by show ¬ (iZ z < 0 ∨ (arrV _ _ _).slots.size ≤ _); rw [arrV_size]; exact iZ_idx hz hn) (by show (arrV _ _ _).slots[_]? = _; rw [arrV_read _ _ hlt]) rfl rfl hdg ?_
  rw [iZ_cl ⟨by omega, by omega⟩, hv]
  exact kk
theorem kz_aast (hx : p.tables.exec = Jvm.exec) (hb : c.code = cc) (hK : va_K D cl (kT dA) s) (hAA : kAA dA s) (hP : va_P D cl ws H) (hD : va_D A ws) (hS : va_S A H0 H locs) (q0 qk : Nat) {n N v : Nat} {f : Nat → Option Nat} {g : Nat → Int32} (ha : ws[q0]? = some (a, .inl (dA 3, n, .inr (.inr (.inr (.inr f)))))) (hv : ws[qk]? = some (v, .inl (dA 0, N, .inl g))) {z : Int} (hz : 0 ≤ z ∧ z < n) (hn : n < 2147483648) (hdg : decode cc pc = .ok (.aastore, 1))
    (kk : ∀ (H1 : Heap) (locs1 : List Loc), va_P D cl (ws.set q0 (a, .inl (dA 3, n, .inr (.inr (.inr (.inr (va_up f z.toNat (some v)))))))) H1 → va_D A (ws.set q0 (a, .inl (dA 3, n, .inr (.inr (.inr (.inr (va_up f z.toNat (some v)))))))) → va_S A H0 H1 locs1 → W p l e R s m args below meth c H1 locs1 cells slots Q (F0 m (pc + 1) ls rest)) : W p l e R s m args below meth c H locs cells slots Q (F0 m pc ls (.ref v :: .int (iZ z) :: .ref a :: rest)) := by
  have hcl := iZ_cl (z := z) ⟨by omega, by omega⟩
  obtain ⟨ka, ki, k1, k2, k3, k4⟩ := hAA
  have hin := iZ_idx (z := z) hz hn
  have hlt : (iZ z).toNatClampNeg < n := by rw [hcl]; omega
  refine W.aast hx hb (hP q0 _ ha) (fun q h => by cases h) (fun h => by cases h) k1 k2 rfl k3 ⟨fun q => hin (Or.inl q), by show _ < (arrV _ _ _).slots.size; rw [arrV_size]; exact hlt⟩ (hP qk _ hv) (fun q h => by cases h) k3 (kassign _ _) rfl rfl hdg fun H1 e z9 oq => ?_
  rw [hcl] at e
  refine kk H1 _ (hP.set hD ha ?_ oq) (hD.set ha) (hS.put z9 oq (hD.2 q0 _ ha))
  show H1[a]? = some (vp_cell _ _)
  rw [e]
  show some ((vp_cell (dA 3) (n, .inr (.inr (.inr (.inr f))))).setSlot _ _) = _
  rw [vp_cell_q, vp_cell_q, arrV_store]
  congr 2
  funext q
  by_cases hq : q = z.toNat
  · subst hq
    simp [updV, va_up, va_rf]
  · simp [updV, va_up, hq]
/-- a static int table -/
theorem kz_ti {t N : Nat} {f : Nat → Value} (hx : p.tables.exec = Jvm.exec) (hb : c.code = cc) (hT : va_T .int t N f A s s.heap) (hS : va_S A s.heap H locs) {z v : Int} (hz : 0 ≤ z ∧ z < N) (hN : N < 2147483648) (hv : f z.toNat = .int (iZ v)) (hdg : decode cc pc = .ok (.iaload, 1))
    (kk : W p l e R s m args below meth c H locs cells slots Q (F0 m (pc + 1) ls (.int (iZ v) :: rest))) : W p l e R s m args below meth c H locs cells slots Q (F0 m pc ls (.int (iZ z) :: .ref t :: rest)) :=
  va_ti hx hb hT hS (iZ_idx hz hN) (by rw [iZ_cl ⟨by omega, by omega⟩]; exact hv) hdg kk
end
theorem kup_A {m0 : Nat} {r0 r : Nat → Nat → Nat} {sz b n v : Nat} (hb : 1 ≤ b ∧ b ≤ 3) (hn : n < 4) (h : ∀ i : Nat, i < 17 → kAy m0 r0 sz (kR m0 r i)) (hv : kAy m0 r0 sz v) : ∀ i : Nat, i < 17 → kAy m0 r0 sz (kR m0 (upN r b n v) i) := fun i hi => by
  rw [kR_up hb hn hi]
  split
  · exact hv
  · exact h i hi
theorem kofun {r : Nat → Nat → Nat} {b j v : Nat} : va_up (fun i => some (r b i)) j (some v) = fun i => some (upN r b j v b i) := by
  funext i
  unfold va_up upN
  by_cases h : i = j
  · subst h; simp
  · simp [h]
theorem kYD_A {m0 : Nat} {r0 r : Nat → Nat → Nat} {k : Nat → Nat} {sz : Nat} (hr : kRI m0 r k) (hA : ∀ i : Nat, i < 17 → kAy m0 r0 sz (kR m0 r i)) {dA : Nat → ClassId} {σ : Nat → Nat → Int} {th : Int} : va_D (kAy m0 r0 sz) (kY dA m0 r σ th) :=
  ⟨(kY_DD (sz := sz) hr).1, fun i p h => by
    obtain ⟨a1, a2⟩ := kY_at h
    rw [a2]; exact hA i a1⟩
theorem kys_L {D : va_G} {cl : List vw_C} {H : Heap} {dA : Nat → ClassId} {m0 v : Nat} {r : Nat → Nat → Nat} {σ : Nat → Nat → Int} {th : Int} {y1 m1 : Int} {j : Nat} (hj : j < 4) (h : va_P D cl ((kY dA m0 r σ th ++ ([(v, .inl (dA 0, 2, .inl (row2 y1 m1)))] : va_W)).set 1 (r 0 1, .inl (dA 3, 4, .inr (.inr (.inr (.inr (va_up (fun i => some (r 1 i)) j (some v)))))))) H) : va_P D cl (kY dA m0 (upN r 1 j v) (sU (sU σ 0 j y1) 1 j m1) th) H := by
  rw [kofun] at h
  have hP := h
  match j, hj with
  | 0, _ => exact hP.sub [0, 1, 2, 3, 4, 17, 6, 7, 8, 9, 10, 11, 12, 13, 14, 15, 16] rfl
  | 1, _ => exact hP.sub [0, 1, 2, 3, 4, 5, 17, 7, 8, 9, 10, 11, 12, 13, 14, 15, 16] rfl
  | 2, _ => exact hP.sub [0, 1, 2, 3, 4, 5, 6, 17, 8, 9, 10, 11, 12, 13, 14, 15, 16] rfl
  | 3, _ => exact hP.sub [0, 1, 2, 3, 4, 5, 6, 7, 17, 9, 10, 11, 12, 13, 14, 15, 16] rfl
  | n + 4, hj => exact absurd hj (by omega)
theorem kys_F {D : va_G} {cl : List vw_C} {H : Heap} {dA : Nat → ClassId} {m0 v : Nat} {r : Nat → Nat → Nat} {σ : Nat → Nat → Int} {th : Int} {y1 m1 : Int} {j : Nat} (hj : j < 4) (h : va_P D cl ((kY dA m0 r σ th ++ ([(v, .inl (dA 0, 2, .inl (row2 y1 m1)))] : va_W)).set 3 (r 0 3, .inl (dA 3, 4, .inr (.inr (.inr (.inr (va_up (fun i => some (r 2 i)) j (some v)))))))) H) : va_P D cl (kY dA m0 (upN r 2 j v) (sU (sU σ 3 j y1) 4 j m1) th) H := by
  rw [kofun] at h
  have hP := h
  match j, hj with
  | 0, _ => exact hP.sub [0, 1, 2, 3, 4, 5, 6, 7, 8, 17, 10, 11, 12, 13, 14, 15, 16] rfl
  | 1, _ => exact hP.sub [0, 1, 2, 3, 4, 5, 6, 7, 8, 9, 17, 11, 12, 13, 14, 15, 16] rfl
  | 2, _ => exact hP.sub [0, 1, 2, 3, 4, 5, 6, 7, 8, 9, 10, 17, 12, 13, 14, 15, 16] rfl
  | 3, _ => exact hP.sub [0, 1, 2, 3, 4, 5, 6, 7, 8, 9, 10, 11, 17, 13, 14, 15, 16] rfl
  | n + 4, hj => exact absurd hj (by omega)
theorem kys_D {D : va_G} {cl : List vw_C} {H : Heap} {dA : Nat → ClassId} {m0 v : Nat} {r : Nat → Nat → Nat} {σ : Nat → Nat → Int} {th : Int} {y1 m1 d1 : Int} {j : Nat} (hj : j < 4) (h : va_P D cl ((kY dA m0 r σ th ++ ([(v, .inl (dA 0, 3, .inl (row3 y1 m1 d1)))] : va_W)).set 4 (r 0 4, .inl (dA 3, 4, .inr (.inr (.inr (.inr (va_up (fun i => some (r 3 i)) j (some v)))))))) H) : va_P D cl (kY dA m0 (upN r 3 j v) (sU (sU (sU σ 5 j y1) 6 j m1) 7 j d1) th) H := by
  rw [kofun] at h
  have hP := h
  match j, hj with
  | 0, _ => exact hP.sub [0, 1, 2, 3, 4, 5, 6, 7, 8, 9, 10, 11, 12, 17, 14, 15, 16] rfl
  | 1, _ => exact hP.sub [0, 1, 2, 3, 4, 5, 6, 7, 8, 9, 10, 11, 12, 13, 17, 15, 16] rfl
  | 2, _ => exact hP.sub [0, 1, 2, 3, 4, 5, 6, 7, 8, 9, 10, 11, 12, 13, 14, 17, 16] rfl
  | 3, _ => exact hP.sub [0, 1, 2, 3, 4, 5, 6, 7, 8, 9, 10, 11, 12, 13, 14, 15, 17] rfl
  | n + 4, hj => exact absurd hj (by omega)
theorem kSN {k : Nat → Nat} {A : Nat → Prop} {H0 H : Heap} {locs : List Loc} (h : va_S A H0 H locs) (hA : ∀ a, A a → k 0 ≤ a) : va_S (kN0 k) H0 H locs := ⟨h.1, fun q h1 h2 => h.2.1 q h1 (fun z => h2 (hA q z)), fun q hq => hA _ (h.2.2 q hq)⟩
