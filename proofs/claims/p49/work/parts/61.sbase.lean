/-! the JDK's builder: its bytes as whole numbers; the JDK's statics; rows of instructions and of calls -/
def kJ (k : Nat → Nat) (U : State) : Prop :=
  va_Z "java/lang/String" "COMPACT_STRINGS" "Z" (.int 1) (kN0 k) U U.heap
  ∧ va_Z "java/lang/Integer" "DigitOnes" "[B" (.ref (k 5)) (kN0 k) U U.heap ∧ va_T .byte (k 5) 100 (fun j => .int (iZ ((48 + j % 10 : Nat) : Int))) (kN0 k) U U.heap
  ∧ va_Z "java/lang/Integer" "DigitTens" "[B" (.ref (k 6)) (kN0 k) U U.heap ∧ va_T .byte (k 6) 100 (fun j => .int (iZ ((48 + j / 10 : Nat) : Int))) (kN0 k) U U.heap
  ∧ va_Zq "jdk/internal/util/Preconditions" "SIOOBE_FORMATTER" "Ljava/util/function/BiFunction;" (kN0 k) U U.heap
  ∧ vk_R RX3 192 "" (k 7) U ∧ vk_S 1 [0] [[]] (fun _ => k 7) (fun _ => k 8) (kN0 k) U U.heap
theorem kJ_call {k : Nat → Nat} {U : State} {g : JFrame} {mk : MethodId} {a : Array Value} (h : kJ k U) : kJ k (U.calling g mk a) := by
  obtain ⟨h1, h2, h3, h4, h5, h6, h7, h8⟩ := h
  exact ⟨va_Z.moved (u := U) (U := U.calling g mk a) (Vm.Alike.refl U.vm) h1, va_Z.moved (u := U) (U := U.calling g mk a) (Vm.Alike.refl U.vm) h2, va_T.moved (u := U) (U := U.calling g mk a) (Vm.Alike.refl U.vm) h3, va_Z.moved (u := U) (U := U.calling g mk a) (Vm.Alike.refl U.vm) h4, va_T.moved (u := U) (U := U.calling g mk a) (Vm.Alike.refl U.vm) h5, va_Zq.moved (u := U) (U := U.calling g mk a) (Vm.Alike.refl U.vm) h6, vk_R.same rfl h7, vk_S.moved (u := U) (U := U.calling g mk a) (Vm.Alike.refl U.vm) h8⟩
theorem kJ_kept {k : Nat → Nat} {s U : State} {A : Nat → Prop} {H : Heap} {locs : List Loc} (h : kJ k s) (hS : va_S A s.heap H locs) (hA : ∀ q, A q → k 0 ≤ q) (hU : U.heap = H) (hW : s.WarmedH U.vm) : kJ k U := by
  obtain ⟨h1, h2, h3, h4, h5, h6, h7, h8⟩ := h
  have hq : ∀ a : Nat, a < s.heap.size → ¬ kN0 k a → U.heap[a]? = s.heap[a]? := fun a ha hn => by rw [hU]; exact hS.2.1 a ha (fun z => hn (hA a z))
  exact ⟨(va_Z.moved hW.alike h1).kept hq, (va_Z.moved hW.alike h2).kept hq, (va_T.moved hW.alike h3).kept hq, (va_Z.moved hW.alike h4).kept hq, (va_T.moved hW.alike h5).kept hq, (va_Zq.moved hW.alike h6).kept hq, vk_R.warm hW h7, (vk_S.moved hW.alike h8).kept hq⟩
def kMJ (dC : Nat → ClassId) (dI : Nat → Nat → Nat) (dA : Nat → ClassId) (k : Nat → Nat) (U : State) : Prop := kM dC dI dA k U ∧ kJ k U
theorem kMJ_call {dC : Nat → ClassId} {dI : Nat → Nat → Nat} {dA : Nat → ClassId} {k : Nat → Nat} {U : State} {g : JFrame} {mk : MethodId} {a : Array Value} (h : kMJ dC dI dA k U) : kMJ dC dI dA k (U.calling g mk a) := ⟨kM_call h.1, kJ_call h.2⟩
theorem kMJ_kept {dC : Nat → ClassId} {dI : Nat → Nat → Nat} {dA : Nat → ClassId} {k : Nat → Nat} {s U : State} {A : Nat → Prop} {H : Heap} {locs : List Loc} (h : kMJ dC dI dA k s) (hS : va_S A s.heap H locs) (hA : ∀ q, A q → k 0 ≤ q) (hU : U.heap = H) (hW : s.WarmedH U.vm) : kMJ dC dI dA k U := ⟨kM_kept h.1 hS hA hU hW, kJ_kept h.2 hS hA hU hW⟩
def gu (g : Nat → Int) (i : Nat) (c : Int) : Nat → Int := fun j => if j = i then c else g j
def kG (g : Nat → Int) : Prop := ∀ j, -128 ≤ g j ∧ g j < 128
theorem kG_gu {g : Nat → Int} {i : Nat} {c : Int} (h : kG g) (hc : -128 ≤ c ∧ c < 128) : kG (gu g i c) := fun j => by
  unfold gu; split
  · exact hc
  · exact h j
/-- a builder b of n letters in the bytes g of the array v, of 16 places -/
def kW (b v : Nat) (dA : Nat → ClassId) (g : Nat → Int) (tm : Int32) (n : Nat) : va_W := [(b, .inr (1, [.ref v, .int 0, .int tm, .int (iZ (n : Int))])), (v, .inl (dA 2, 16, .inl (fun j => iZ (g j))))]
def kAB (b v sz : Nat) : Nat → Prop := fun a => a = b ∨ a = v ∨ sz ≤ a
def gW (dC : Nat → ClassId) (dI : Nat → Nat → Nat) (dA : Nat → ClassId) (b v : Nat) (g : Nat → Int) (n : Nat) (H : Heap) : Prop := ∃ tm : Int32, (tm = 0 ∨ tm = 1) ∧ va_P (dC, dI) vwCl (kW b v dA g tm n) H
theorem gW_cast {dC : Nat → ClassId} {dI : Nat → Nat → Nat} {dA : Nat → ClassId} {b v : Nat} {g g' : Nat → Int} {n n' : Nat} {H : Heap} (h : gW dC dI dA b v g n H) (e : g = g') (e2 : n = n') : gW dC dI dA b v g' n' H := e ▸ e2 ▸ h
theorem kW_D {b v : Nat} {dA : Nat → ClassId} {g : Nat → Int} {tm : Int32} {n : Nat} {sz : Nat} (h : b ≠ v) : va_D (kAB b v sz) (kW b v dA g tm n) :=
  ⟨fun i j p q hi hj e => by
    have h1 : i < 2 := (List.getElem?_eq_some_iff.mp hi).1
    have h2 : j < 2 := (List.getElem?_eq_some_iff.mp hj).1
    match i, j, h1, h2 with
    | 0, 0, _, _ => rfl
    | 1, 1, _, _ => rfl
    | 0, 1, _, _ => cases hi; cases hj; exact absurd e h
    | 1, 0, _, _ => cases hi; cases hj; exact absurd e.symm h, fun i p hi => by
    have h1 : i < 2 := (List.getElem?_eq_some_iff.mp hi).1
    match i, h1 with
    | 0, _ => cases hi; exact Or.inl rfl
    | 1, _ => cases hi; exact Or.inr (Or.inl rfl)⟩
theorem kAB_N {b v sz : Nat} {k : Nat → Nat} (h1 : k 0 ≤ b) (h2 : k 0 ≤ v) (h3 : k 0 ≤ sz) : ∀ a, kAB b v sz a → k 0 ≤ a := fun a h => by
  rcases h with rfl | rfl | h
  · exact h1
  · exact h2
  · exact Nat.le_trans h3 h
theorem kAB_up {b v sz sz' : Nat} (h : sz ≤ sz') : ∀ a, kAB b v sz' a → kAB b v sz a := fun a h9 => h9.elim Or.inl (fun z => Or.inr (z.elim Or.inl (fun y => Or.inr (Nat.le_trans h y))))
theorem kAB_new {b v sz : Nat} : ∀ q, sz ≤ q → kAB b v sz q := fun _ h => Or.inr (Or.inr h)
theorem iZ_b {z : Int} (h : -128 ≤ z ∧ z < 128) : (iZ z).toInt8.toInt32 = iZ z := by
  rw [← Int32.toInt_inj, Int8.toInt_toInt32, Int32.toInt_toInt8, iZ_toInt ⟨by omega, by omega⟩, Int.bmod_eq_of_le (by omega) (by omega)]
theorem knar {z : Int} (h : -128 ≤ z ∧ z < 128) : vp_nar .byte (iZ z) = iZ z := by rw [vp_nar_byte, iZ_b h]
theorem kfitb {z : Int} (h : -128 ≤ z ∧ z < 128) : fits .byte (.int (iZ z)) = true := by
  have h2 := pk_fb (iZ z)
  rw [iZ_b h] at h2
  exact h2
theorem kand255 {z : Int} (h : 0 ≤ z ∧ z < 256) : iZ z &&& iZ 255 = iZ z := by
  obtain ⟨n, rfl⟩ : ∃ n : Nat, z = (n : Int) := ⟨z.toNat, by omega⟩
  rw [← nI_iZ, pk_andN (by omega) 8 (by decide), Nat.mod_eq_of_lt (by omega)]
theorem ki2c {z : Int} (h : 0 ≤ z ∧ z < 65536) : ((iZ z).toUInt32 % 65536).toInt32 = iZ z := by
  obtain ⟨n, rfl⟩ : ∃ n : Nat, z = (n : Int) := ⟨z.toNat, by omega⟩
  rw [← nI_iZ, pk_char, pk_tn (by omega), Nat.mod_eq_of_lt (by omega)]
theorem kshr1 {z : Int} (h : -2147483648 ≤ z ∧ z < 2147483648) : iZ z >>> (iZ 1 &&& 31) = iZ (z / 2) := by
  rw [← Int32.toInt_inj, pk_shr _ _ 1 (by decide), iZ_toInt h, iZ_toInt ⟨by omega, by omega⟩, Int.shiftRight_eq_div_pow]
  rfl
section
variable {p : Program} {l : Launch} {e : Env} {R : Room} {s : State} {m : MethodId} {args : Array Value} {below : List Frame} {meth : Method} {c : Code} {H : Heap} {locs : List Loc} {cells slots : Nat} {Q : State → Prop}
variable {cc : ByteArray} {pc : Nat} {ls : Array Slot} {rest : List Value} {D : va_G} {cl : List vw_C} {A : Nat → Prop} {a : Nat} {ws : va_W} {H0 : Heap} {dA : Nat → ClassId}
theorem kz_bast (hx : p.tables.exec = Jvm.exec) (hb : c.code = cc) (hK : va_K D cl (kT dA) s) (hP : va_P D cl ws H) (hD : va_D A ws) (hS : va_S A H0 H locs) (q0 : Nat) {n : Nat} {g : Nat → Int} (ha : ws[q0]? = some (a, .inl (dA 2, n, .inl (fun j => iZ (g j))))) {z v : Int} (hz : 0 ≤ z ∧ z < n) (hn : n < 2147483648) (hv : -128 ≤ v ∧ v < 128) (hdg : decode cc pc = .ok (.bastore, 1))
    (kk : ∀ (H1 : Heap) (locs1 : List Loc), va_P D cl (ws.set q0 (a, .inl (dA 2, n, .inl (fun j => iZ (gu g z.toNat v j))))) H1 → va_D A (ws.set q0 (a, .inl (dA 2, n, .inl (fun j => iZ (gu g z.toNat v j))))) → va_S A H0 H1 locs1 → W p l e R s m args below meth c H1 locs1 cells slots Q (F0 m (pc + 1) ls rest)) : W p l e R s m args below meth c H locs cells slots Q (F0 m pc ls (.int (iZ v) :: .int (iZ z) :: .ref a :: rest)) := by
  refine va_bast hx hb hK hP hD hS q0 2 ha rfl (iZ_idx hz hn) hdg ?_
  rw [iZ_cl ⟨by omega, by omega⟩, knar hv, show upd (fun j => iZ (g j)) z.toNat (iZ v) = fun j => iZ (gu g z.toNat v j) from funext fun j => by
    show (if j = z.toNat then _ else _) = iZ (if j = z.toNat then _ else _)
    split <;> rfl]
  exact kk
theorem kz_bald (hx : p.tables.exec = Jvm.exec) (hb : c.code = cc) (hK : va_K D cl (kT dA) s) (hP : va_P D cl ws H) (q0 : Nat) {n : Nat} {g : Nat → Int} (ha : ws[q0]? = some (a, .inl (dA 2, n, .inl (fun j => iZ (g j))))) {z : Int} (hz : 0 ≤ z ∧ z < n) (hn : n < 2147483648) (hdg : decode cc pc = .ok (.baload, 1))
    (kk : W p l e R s m args below meth c H locs cells slots Q (F0 m (pc + 1) ls (.int (iZ (g z.toNat)) :: rest))) : W p l e R s m args below meth c H locs cells slots Q (F0 m pc ls (.int (iZ z) :: .ref a :: rest)) := by
  refine va_bald hx hb hK hP q0 2 ha rfl (iZ_idx hz hn) hdg ?_
  rw [iZ_cl ⟨by omega, by omega⟩]
  exact kk
theorem kz_btab {t N : Nat} {f : Nat → Value} (hx : p.tables.exec = Jvm.exec) (hb : c.code = cc) (hT : va_T .byte t N f A s s.heap) (hS : va_S A s.heap H locs) {z v : Int} (hz : 0 ≤ z ∧ z < N) (hN : N < 2147483648) (hv : f z.toNat = .int (iZ v)) (hdg : decode cc pc = .ok (.baload, 1))
    (kk : W p l e R s m args below meth c H locs cells slots Q (F0 m (pc + 1) ls (.int (iZ v) :: rest))) : W p l e R s m args below meth c H locs cells slots Q (F0 m pc ls (.int (iZ z) :: .ref t :: rest)) :=
  va_tb hx hb hT hS (iZ_idx hz hN) (by rw [iZ_cl ⟨by omega, by omega⟩]; exact hv) hdg kk
theorem kz_newB (hx : p.tables.exec = Jvm.exec) (hb : c.code = cc) (harr : (Cond.arrayClass .byte).before args s = true) (hK : va_K D cl (kT dA) s) (hP : va_P D cl ws H) (hD : va_D A ws) (hS : va_S A H0 H locs) (hA : ∀ q, H0.size ≤ q → A q) {N : Nat} (hN : N < 1000) (hcells : cells + 1 ≤ R.cells) (hslots : slots + N ≤ R.slots) (hdg : decode cc pc = .ok (.newarray .byte, 2))
    (kk : ∀ (q : Nat) (H1 : Heap), va_P D cl (ws ++ [(q, .inl (dA 2, N, .inl (fun j => iZ ((fun _ => (0 : Int)) j))))]) H1 → va_D A (ws ++ [(q, .inl (dA 2, N, .inl (fun j => iZ ((fun _ => (0 : Int)) j))))]) → va_S A H0 H1 locs → W p l e R s m args below meth c H1 locs (cells + 1) (slots + N) Q (F0 m (pc + 2) ls (.ref q :: rest))) : W p l e R s m args below meth c H locs cells slots Q (F0 m pc ls (.int (iZ (N : Int)) :: rest)) := by
  have hT := iZ_toInt (z := (N : Int)) ⟨by omega, by omega⟩
  refine va_newa (atype := .byte) (ty := .byte) (a0 := (N, .inl (fun j => iZ ((fun _ => (0 : Int)) j)))) hx hb harr rfl hK hP hD hS hA (fun cA => rfl) (fun q => by rw [Int32.lt_iff_toInt_lt, hT] at q; exact absurd q (by rw [show (0 : Int32).toInt = 0 from rfl]; omega)) (N' := N) (by rw [iZ_cl ⟨by omega, by omega⟩]; rfl) (by show N * 1 ≤ 536870912; omega) hcells hslots hdg (fun q cA H1 hK1 hP1 hD1 hS1 => ?_)
  have e1 : s.vm.findClass ("[" ++ FieldType.byte.toString) = some (dA 2) := (hK.2 2 _ rfl).2
  have e2 : s.vm.findClass ("[" ++ FieldType.byte.toString) = some cA := (hK1.2 4 _ rfl).2
  have e3 : cA = dA 2 := Option.some.inj (e2.symm.trans e1)
  subst e3
  exact kk q H1 hP1 hD1 hS1
theorem kz_blen (hx : p.tables.exec = Jvm.exec) (hb : c.code = cc) (hK : va_K D cl (kT dA) s) (hP : va_P D cl ws H) (q0 : Nat) {n : Nat} {g : Nat → Int} (ha : ws[q0]? = some (a, .inl (dA 2, n, .inl (fun j => iZ (g j))))) (hdg : decode cc pc = .ok (.arraylength, 1))
    (kk : W p l e R s m args below meth c H locs cells slots Q (F0 m (pc + 1) ls (.int (iZ (n : Int)) :: rest))) : W p l e R s m args below meth c H locs cells slots Q (F0 m pc ls (.ref a :: rest)) :=
  va_alen (v := iZ (n : Int)) hx hb hK hP q0 2 ha rfl (nI_iZ n) hdg kk
theorem kz_ishr0 (hx : p.tables.exec = Jvm.exec) (hb : c.code = cc) {x : Int32} (hdg : decode cc pc = .ok (.ishr, 1)) (k : W p l e R s m args below meth c H locs cells slots Q (F0 m (pc + 1) ls (.int x :: rest))) : W p l e R s m args below meth c H locs cells slots Q (F0 m pc ls (.int 0 :: .int x :: rest)) := lv_ishr hx hb hdg (by rw [sb_shr0]; exact k)
theorem kz_ishl0 (hx : p.tables.exec = Jvm.exec) (hb : c.code = cc) {x : Int32} (hdg : decode cc pc = .ok (.ishl, 1)) (k : W p l e R s m args below meth c H locs cells slots Q (F0 m (pc + 1) ls (.int x :: rest))) : W p l e R s m args below meth c H locs cells slots Q (F0 m pc ls (.int 0 :: .int x :: rest)) := lv_ishl hx hb hdg (by rw [sb_shl0]; exact k)
theorem kz_ishr1 (hx : p.tables.exec = Jvm.exec) (hb : c.code = cc) {z : Int} (h : -2147483648 ≤ z ∧ z < 2147483648) (hdg : decode cc pc = .ok (.ishr, 1)) (k : W p l e R s m args below meth c H locs cells slots Q (F0 m (pc + 1) ls (.int (iZ (z / 2)) :: rest))) : W p l e R s m args below meth c H locs cells slots Q (F0 m pc ls (.int (iZ 1) :: .int (iZ z) :: rest)) := lv_ishr hx hb hdg (by rw [kshr1 h]; exact k)
theorem kz_and255 (hx : p.tables.exec = Jvm.exec) (hb : c.code = cc) {z : Int} (h : 0 ≤ z ∧ z < 256) (hdg : decode cc pc = .ok (.iand, 1)) (k : W p l e R s m args below meth c H locs cells slots Q (F0 m (pc + 1) ls (.int (iZ z) :: rest))) : W p l e R s m args below meth c H locs cells slots Q (F0 m pc ls (.int (iZ 255) :: .int (iZ z) :: rest)) := lv_iand hx hb hdg (by rw [kand255 h]; exact k)
end
theorem kg_G {hd : Cond} {ws : List Cond} {c : Cond} (hw : ws = c :: gT) (h4 : c ∈ gT) : GoodIn (hd :: gT) ws := fun w h => by
  have k : w ∈ gT := by
    rw [hw] at h
    rcases List.mem_cons.mp h with rfl | h
    · exact h4
    exact h
  exact ⟨List.mem_cons_of_mem _ k, gT_ok w k⟩
theorem kg_U {hd : Cond} {own C owner : String} {idx : Nat} {x y : MethodName} {ws : List Cond} (h1 : Cond.methodLink own idx x ∈ gT) (h2 : Cond.sameMethod x.cls owner x.name x.desc ∈ gT) (h3 : Cond.selects C x y ∈ gT) (h5 : Cond.instanceMethod y ∈ gT) (h6 : Cond.initialized y.cls ∈ gT) {c : Cond} (hw : ws = c :: gT) (h4 : c ∈ gT) : GoodIn (hd :: gT) (va_wsU own idx C owner x y ws) := by
  have k : ∀ w ∈ va_wsU own idx C owner x y ws, w ∈ gT := by
    intro w h
    rw [hw] at h
    rcases List.mem_append.mp h with h | h
    · rcases List.mem_cons.mp h with rfl | h
      · exact h1
      rcases List.mem_cons.mp h with rfl | h
      · exact h2
      rcases List.mem_cons.mp h with rfl | h
      · exact h3
      rcases List.mem_cons.mp h with rfl | h
      · exact h5
      rcases List.mem_cons.mp h with rfl | h
      · exact h6
      cases h
    · rcases List.mem_cons.mp h with rfl | h
      · exact h4
      exact h
  exact fun w h => ⟨List.mem_cons_of_mem _ (k w h), gT_ok w (k w h)⟩
theorem kg_O {hd : Cond} {own C owner : String} {idx : Nat} {x y : MethodName} {ws : List Cond} (h1 : Cond.methodLink own idx x ∈ gT) (h2 : Cond.sameMethod x.cls owner x.name x.desc ∈ gT) (h7 : Cond.instanceMethod ⟨owner, x.name, x.desc⟩ ∈ gT) (h3 : Cond.selects C x y ∈ gT) (h5 : Cond.instanceMethod y ∈ gT) (h6 : Cond.initialized y.cls ∈ gT) {c : Cond} (hw : ws = c :: gT) (h4 : c ∈ gT) : GoodIn (hd :: gT) (va_wsO own idx C owner x y ws) := by
  have k : ∀ w ∈ va_wsO own idx C owner x y ws, w ∈ gT := by
    intro w h
    rw [hw] at h
    rcases List.mem_append.mp h with h | h
    · rcases List.mem_cons.mp h with rfl | h
      · exact h1
      rcases List.mem_cons.mp h with rfl | h
      · exact h2
      rcases List.mem_cons.mp h with rfl | h
      · exact h7
      rcases List.mem_cons.mp h with rfl | h
      · exact h3
      rcases List.mem_cons.mp h with rfl | h
      · exact h5
      rcases List.mem_cons.mp h with rfl | h
      · exact h6
      cases h
    · rcases List.mem_cons.mp h with rfl | h
      · exact h4
      exact h
  exact fun w h => ⟨List.mem_cons_of_mem _ (k w h), gT_ok w (k w h)⟩
theorem kg_SU {hd : Cond} {own : String} {idx : Nat} {y : MethodName} {ws : List Cond} (h1 : Cond.methodLink own idx y ∈ gT) (h2 : Cond.sameMethod y.cls y.cls y.name y.desc ∈ gT) (h3 : Cond.superclass own y.cls ∈ gT) (h5 : Cond.instanceMethod y ∈ gT) (h6 : Cond.initialized y.cls ∈ gT) {c : Cond} (hw : ws = c :: gT) (h4 : c ∈ gT) : GoodIn (hd :: gT) (va_wsSU own idx y ws) := by
  have k : ∀ w ∈ va_wsSU own idx y ws, w ∈ gT := by
    intro w h
    rw [hw] at h
    rcases List.mem_append.mp h with h | h
    · rcases List.mem_cons.mp h with rfl | h
      · exact h1
      rcases List.mem_cons.mp h with rfl | h
      · exact h2
      rcases List.mem_cons.mp h with rfl | h
      · exact h3
      rcases List.mem_cons.mp h with rfl | h
      · exact h5
      rcases List.mem_cons.mp h with rfl | h
      · exact h6
      cases h
    · rcases List.mem_cons.mp h with rfl | h
      · exact h4
      exact h
  exact fun w h => ⟨List.mem_cons_of_mem _ (k w h), gT_ok w (k w h)⟩
theorem kdig_5 {z : Int} (h : 0 ≤ z ∧ z < (100 : Nat)) : (Value.int (iZ ((48 + z.toNat % 10 : Nat) : Int))) = .int (iZ (48 + z % 10)) := by
  obtain ⟨n, rfl⟩ : ∃ n : Nat, z = (n : Int) := ⟨z.toNat, by omega⟩
  exact congrArg (fun x => Value.int (iZ x)) (by rw [Int.toNat_natCast]; omega)
theorem kdig_6 {z : Int} (h : 0 ≤ z ∧ z < (100 : Nat)) : (Value.int (iZ ((48 + z.toNat / 10 : Nat) : Int))) = .int (iZ (48 + z / 10)) := by
  obtain ⟨n, rfl⟩ : ∃ n : Nat, z = (n : Int) := ⟨z.toNat, by omega⟩
  exact congrArg (fun x => Value.int (iZ x)) (by rw [Int.toNat_natCast]; omega)
abbrev ww_J1_canEncode_fc78d : List Cond := .code yJ1_canEncode_fc78d cJ1_canEncode_fc78d 1 (some .boolean) :: gT
set_option maxHeartbeats 4000000 in
set_option maxRecDepth 100000 in
/-- J1_canEncode_fc78d -/
theorem c_J1_canEncode_fc78d (l : Launch) (H0 : Heap) (ch : Int) (h0 : 0 ≤ ch ∧ ch < 128) : Met l yJ1_canEncode_fc78d ww_J1_canEncode_fc78d ({ frames := 0, cells := 0, slots := 0, locals := 0 }) (va_Pc [.int (iZ ch)] (fun U => U.heap = H0)) (kQ0 (some (.int (iZ (bZ (true))))) H0) 0 0 kN := by
  refine va_MetF (cc := cJ1_canEncode_fc78d) (maxL := 1) (ret := (some .boolean)) (by decide +kernel) rfl ?_
  intro p e s m args below meth c s₁ B hml hv
  obtain ⟨rfl, hH⟩ := hv
  subst hH
  have hx := B.exec
  have hb := B.bytes
  have hr := B.returns
  have hts := atoms_spec (ws := ww_J1_canEncode_fc78d) B.pre
  have hown : s.vm.findClass RJ1 = some m.cls := findClass_of_methodNamed B.named
  have hlocks := B.notSynchronized
  have hl := lv_entry ([.int (iZ ch)]) (n := 1) (Nat.le_of_ble_eq_true rfl)
  rw [lg_entry_eq]
  generalize (lg_sl ([.int (iZ ch)]) ++ List.replicate (1 - (lg_sl ([.int (iZ ch)])).length) Slot.unset).toArray = ls at hl ⊢
  have hl : lv_has ls 1 [(0, .int (iZ ch))] := hl
  refine lv_iload_n hx hb dJ1_canEncode_fc78d_0 rfl (lv_at hl 0 rfl) ?_
  refine lv_sipush (v := iZ 255) hx hb dJ1_canEncode_fc78d_1 rfl ?_
  refine kz_icmp_gt (tgt := 11) hx hb (by omega) (by omega) dJ1_canEncode_fc78d_4 (by decide) (fun c_1 => absurd c_1 (by omega)) (fun c_1 => ?_)
  refine lv_iconst (v := iZ 1) hx hb dJ1_canEncode_fc78d_7 rfl ?_
  refine lv_goto (tgt := 12) hx hb dJ1_canEncode_fc78d_8 (by decide) ?_
  exact W.zret (v := iZ 1) (ty := .boolean) hx hb hr rfl (fun t ht hW => ⟨congrArg (fun z : Int => Outcome.returned (some (Value.int (iZ z)))) (show 1 = (bZ (true)) from by rfl), ht⟩) (fun q h => by cases h) dJ1_canEncode_fc78d_12

abbrev ww_J5_isLatin1_aae02 : List Cond := .code yJ5_isLatin1_aae02 cJ5_isLatin1_aae02 1 (some .boolean) :: gT
set_option maxHeartbeats 4000000 in
set_option maxRecDepth 100000 in
/-- J5_isLatin1_aae02 -/
theorem c_J5_isLatin1_aae02 (l : Launch) (dC : Nat → ClassId) (dI : Nat → Nat → Nat) (dA : Nat → ClassId) (k : Nat → Nat) (b v : Nat) (g : Nat → Int) (tm : Int32) (n : Nat) (H0 : Heap) (hP : va_P (dC, dI) vwCl (kW b v dA g tm n) H0) (htm : tm = 0 ∨ tm = 1) (hbv : b ≠ v) (hkb : k 0 ≤ b) (hkv : k 0 ≤ v) (hg : kG g) (hn : n ≤ 16)   : Met l yJ5_isLatin1_aae02 ww_J5_isLatin1_aae02 ({ frames := 0, cells := 0, slots := 0, locals := 0 }) (va_Pc [.ref b] (fun U => U.heap = H0 ∧ kMJ dC dI dA k U)) (kQ0 (some (.int (iZ (bZ (true))))) H0) 0 0 kN := by
  refine va_MetF (cc := cJ5_isLatin1_aae02) (maxL := 1) (ret := (some .boolean)) (by decide +kernel) rfl ?_
  intro p e s m args below meth c s₁ B hml hv
  obtain ⟨rfl, hH, hM⟩ := hv
  subst hH
  have hAN : ∀ a, kAB b v s.heap.size a → k 0 ≤ a := kAB_N hkb hkv hM.1.2.1.1
  have hS : va_S (kAB b v s.heap.size) s.heap s.heap [] := va_S.rf
  have hD : va_D (kAB b v s.heap.size) ([(b, .inr (1, [.ref v, .int 0, .int tm, .int (iZ (((n : Nat) : Int)))])), (v, .inl (dA 2, 16, .inl (fun j => iZ (g j))))] : va_W) := kW_D hbv
  have hP : va_P (dC, dI) vwCl ([(b, .inr (1, [.ref v, .int 0, .int tm, .int (iZ (((n : Nat) : Int)))])), (v, .inl (dA 2, 16, .inl (fun j => iZ (g j))))] : va_W) s.heap := hP
  have hx := B.exec
  have hb := B.bytes
  have hr9 := B.returns
  have hts := atoms_spec (ws := ww_J5_isLatin1_aae02) B.pre
  have hown : s.vm.findClass RJ5 = some m.cls := findClass_of_methodNamed B.named
  have hlocks := B.notSynchronized
  have hl := lv_entry ([.ref b]) (n := 1) (Nat.le_of_ble_eq_true rfl)
  rw [lg_entry_eq]
  generalize (lg_sl ([.ref b]) ++ List.replicate (1 - (lg_sl ([.ref b])).length) Slot.unset).toArray = ls at hl ⊢
  have hl : lv_has ls 1 [(0, .ref b)] := hl
  refine va_gets (v := .int 1) hx hb hM.2.1 (kSN hS hAN) hown (hts _ (List.mem_cons_of_mem _ mw80)) (fun _ h9 => h9) dJ5_isLatin1_aae02_0 ?_
  refine W.eq (g2 := F0 m 3 ls [.int (iZ 1)]) rfl ?_
  refine kz_if_eq (tgt := 17) hx hb (by omega) dJ5_isLatin1_aae02_3 (by decide) (fun c_1 => absurd c_1 (by omega)) (fun c_1 => ?_)
  refine lv_aload_n hx hb dJ5_isLatin1_aae02_6 rfl (lv_at hl 0 rfl) ?_
  refine va_get (D := (dC, dI)) (ci := 1) (v := .int 0) (C := RJ4) (T := TJ4) (N := 4) hx hb hts (fun w h => List.mem_cons_of_mem _ (gF_3_in h)) hown hM.1.1 hP 0 rfl rfl 1 (by decide) (hts _ (List.mem_cons_of_mem _ mw89)) (fun _ h9 => h9) rfl dJ5_isLatin1_aae02_7 ?_
  refine W.eq (g2 := F0 m 10 ls [.int (iZ 0)]) rfl ?_
  refine kz_if_ne (tgt := 17) hx hb (by omega) dJ5_isLatin1_aae02_10 (by decide) (fun c_2 => absurd c_2 (by omega)) (fun c_2 => ?_)
  refine lv_iconst (v := iZ 1) hx hb dJ5_isLatin1_aae02_13 rfl ?_
  refine lv_goto (tgt := 18) hx hb dJ5_isLatin1_aae02_14 (by decide) ?_
  exact W.zret (v := iZ 1) (ty := .boolean) hx hb hr9 rfl (fun t ht hW => ⟨congrArg (fun z : Int => Outcome.returned (some (Value.int (iZ z)))) (show 1 = (bZ (true)) from by rfl), ht⟩) (fun q h => by cases h) dJ5_isLatin1_aae02_18

abbrev ww_J5_ensureCapacityInternal_d00df : List Cond := .code yJ5_ensureCapacityInternal_d00df cJ5_ensureCapacityInternal_d00df 3 none :: gT
set_option maxHeartbeats 4000000 in
set_option maxRecDepth 100000 in
/-- J5_ensureCapacityInternal_d00df -/
theorem c_J5_ensureCapacityInternal_d00df (l : Launch) (dC : Nat → ClassId) (dI : Nat → Nat → Nat) (dA : Nat → ClassId) (k : Nat → Nat) (b v : Nat) (g : Nat → Int) (tm : Int32) (n : Nat) (H0 : Heap) (hP : va_P (dC, dI) vwCl (kW b v dA g tm n) H0) (htm : tm = 0 ∨ tm = 1) (hbv : b ≠ v) (hkb : k 0 ≤ b) (hkv : k 0 ≤ v) (hg : kG g) (hn : n ≤ 16) (qq : Int) (h0 : 0 ≤ qq ∧ qq ≤ 16) : Met l yJ5_ensureCapacityInternal_d00df ww_J5_ensureCapacityInternal_d00df ({ frames := 0, cells := 0, slots := 0, locals := 0 }) (va_Pc [.ref b, .int (iZ qq)] (fun U => U.heap = H0 ∧ kMJ dC dI dA k U)) (kQ0 (none) H0) 0 0 kN := by
  refine va_MetF (cc := cJ5_ensureCapacityInternal_d00df) (maxL := 3) (ret := none) (by decide +kernel) rfl ?_
  intro p e s m args below meth c s₁ B hml hv
  obtain ⟨rfl, hH, hM⟩ := hv
  subst hH
  have hAN : ∀ a, kAB b v s.heap.size a → k 0 ≤ a := kAB_N hkb hkv hM.1.2.1.1
  have hS : va_S (kAB b v s.heap.size) s.heap s.heap [] := va_S.rf
  have hD : va_D (kAB b v s.heap.size) ([(b, .inr (1, [.ref v, .int 0, .int tm, .int (iZ (((n : Nat) : Int)))])), (v, .inl (dA 2, 16, .inl (fun j => iZ (g j))))] : va_W) := kW_D hbv
  have hP : va_P (dC, dI) vwCl ([(b, .inr (1, [.ref v, .int 0, .int tm, .int (iZ (((n : Nat) : Int)))])), (v, .inl (dA 2, 16, .inl (fun j => iZ (g j))))] : va_W) s.heap := hP
  have hx := B.exec
  have hb := B.bytes
  have hr9 := B.returns
  have hts := atoms_spec (ws := ww_J5_ensureCapacityInternal_d00df) B.pre
  have hown : s.vm.findClass RJ5 = some m.cls := findClass_of_methodNamed B.named
  have hlocks := B.notSynchronized
  have hl := lv_entry ([.ref b, .int (iZ qq)]) (n := 3) (Nat.le_of_ble_eq_true rfl)
  rw [lg_entry_eq]
  generalize (lg_sl ([.ref b, .int (iZ qq)]) ++ List.replicate (3 - (lg_sl ([.ref b, .int (iZ qq)])).length) Slot.unset).toArray = ls at hl ⊢
  have hl : lv_has ls 3 [(0, .ref b), (1, .int (iZ qq))] := hl
  refine lv_aload_n hx hb dJ5_ensureCapacityInternal_d00df_0 rfl (lv_at hl 0 rfl) ?_
  refine va_get (D := (dC, dI)) (ci := 1) (v := .ref v) (C := RJ4) (T := TJ4) (N := 4) hx hb hts (fun w h => List.mem_cons_of_mem _ (gF_3_in h)) hown hM.1.1 hP 0 rfl rfl 0 (by decide) (hts _ (List.mem_cons_of_mem _ mw88)) (fun _ h9 => h9) rfl dJ5_ensureCapacityInternal_d00df_1 ?_
  refine kz_blen hx hb hM.1.1 hP 1 rfl dJ5_ensureCapacityInternal_d00df_4 ?_
  refine W.eq (g2 := F0 m 5 ls [.int (iZ 16)]) rfl ?_
  refine lv_aload_n hx hb dJ5_ensureCapacityInternal_d00df_5 rfl (lv_at hl 0 rfl) ?_
  refine va_get (D := (dC, dI)) (ci := 1) (v := .int 0) (C := RJ4) (T := TJ4) (N := 4) hx hb hts (fun w h => List.mem_cons_of_mem _ (gF_3_in h)) hown hM.1.1 hP 0 rfl rfl 1 (by decide) (hts _ (List.mem_cons_of_mem _ mw89)) (fun _ h9 => h9) rfl dJ5_ensureCapacityInternal_d00df_6 ?_
  refine kz_ishr0 hx hb dJ5_ensureCapacityInternal_d00df_9 ?_
  refine lv_istore_n (lv' := [(2, .int (iZ 16)), (0, .ref b), (1, .int (iZ qq))]) hx hb dJ5_ensureCapacityInternal_d00df_10 rfl hl (by decide) rfl (fun ls hl => ?_)
  refine lv_iload_n hx hb dJ5_ensureCapacityInternal_d00df_11 rfl (lv_at hl 2 rfl) ?_
  refine lv_iload_n hx hb dJ5_ensureCapacityInternal_d00df_12 rfl (lv_at hl 0 rfl) ?_
  refine kz_isub hx hb dJ5_ensureCapacityInternal_d00df_13 ?_
  refine kz_if_le (tgt := 38) hx hb (by omega) dJ5_ensureCapacityInternal_d00df_14 (by decide) (fun c_1 => ?_) (fun c_1 => absurd c_1 (by omega))
  exact W.vret hx hb hr9 (fun t ht hW => ⟨rfl, ht⟩) (fun q h => by cases h) dJ5_ensureCapacityInternal_d00df_38

abbrev ww_J5_length_8abf5 : List Cond := .code yJ5_length_8abf5 cJ5_length_8abf5 1 (some .int) :: gT
set_option maxHeartbeats 4000000 in
set_option maxRecDepth 100000 in
/-- J5_length_8abf5 -/
theorem c_J5_length_8abf5 (l : Launch) (dC : Nat → ClassId) (dI : Nat → Nat → Nat) (dA : Nat → ClassId) (k : Nat → Nat) (b v : Nat) (g : Nat → Int) (tm : Int32) (n : Nat) (H0 : Heap) (hP : va_P (dC, dI) vwCl (kW b v dA g tm n) H0) (htm : tm = 0 ∨ tm = 1) (hbv : b ≠ v) (hkb : k 0 ≤ b) (hkv : k 0 ≤ v) (hg : kG g) (hn : n ≤ 16)   : Met l yJ5_length_8abf5 ww_J5_length_8abf5 ({ frames := 0, cells := 0, slots := 0, locals := 0 }) (va_Pc [.ref b] (fun U => U.heap = H0 ∧ kMJ dC dI dA k U)) (kQ0 (some (.int (iZ (((n : Nat) : Int))))) H0) 0 0 kN := by
  refine va_MetF (cc := cJ5_length_8abf5) (maxL := 1) (ret := (some .int)) (by decide +kernel) rfl ?_
  intro p e s m args below meth c s₁ B hml hv
  obtain ⟨rfl, hH, hM⟩ := hv
  subst hH
  have hAN : ∀ a, kAB b v s.heap.size a → k 0 ≤ a := kAB_N hkb hkv hM.1.2.1.1
  have hS : va_S (kAB b v s.heap.size) s.heap s.heap [] := va_S.rf
  have hD : va_D (kAB b v s.heap.size) ([(b, .inr (1, [.ref v, .int 0, .int tm, .int (iZ (((n : Nat) : Int)))])), (v, .inl (dA 2, 16, .inl (fun j => iZ (g j))))] : va_W) := kW_D hbv
  have hP : va_P (dC, dI) vwCl ([(b, .inr (1, [.ref v, .int 0, .int tm, .int (iZ (((n : Nat) : Int)))])), (v, .inl (dA 2, 16, .inl (fun j => iZ (g j))))] : va_W) s.heap := hP
  have hx := B.exec
  have hb := B.bytes
  have hr9 := B.returns
  have hts := atoms_spec (ws := ww_J5_length_8abf5) B.pre
  have hown : s.vm.findClass RJ5 = some m.cls := findClass_of_methodNamed B.named
  have hlocks := B.notSynchronized
  have hl := lv_entry ([.ref b]) (n := 1) (Nat.le_of_ble_eq_true rfl)
  rw [lg_entry_eq]
  generalize (lg_sl ([.ref b]) ++ List.replicate (1 - (lg_sl ([.ref b])).length) Slot.unset).toArray = ls at hl ⊢
  have hl : lv_has ls 1 [(0, .ref b)] := hl
  refine lv_aload_n hx hb dJ5_length_8abf5_0 rfl (lv_at hl 0 rfl) ?_
  refine va_get (D := (dC, dI)) (ci := 1) (v := .int (iZ (((n : Nat) : Int)))) (C := RJ4) (T := TJ4) (N := 4) hx hb hts (fun w h => List.mem_cons_of_mem _ (gF_3_in h)) hown hM.1.1 hP 0 rfl rfl 3 (by decide) (hts _ (List.mem_cons_of_mem _ mw92)) (fun _ h9 => h9) rfl dJ5_length_8abf5_1 ?_
  exact W.iret (v := iZ (((n : Nat) : Int))) hx hb hr9 (fun t ht hW => ⟨congrArg (fun z : Int => Outcome.returned (some (Value.int (iZ z)))) (show (((n : Nat) : Int)) = (((n : Nat) : Int)) from rfl), ht⟩) (fun q h => by cases h) dJ5_length_8abf5_4

abbrev ww_J4_length_8abf5 : List Cond := .code yJ4_length_8abf5 cJ4_length_8abf5 1 (some .int) :: gT
set_option maxHeartbeats 4000000 in
set_option maxRecDepth 100000 in
/-- J4_length_8abf5 -/
theorem c_J4_length_8abf5 (l : Launch) (dC : Nat → ClassId) (dI : Nat → Nat → Nat) (dA : Nat → ClassId) (k : Nat → Nat) (b v : Nat) (g : Nat → Int) (tm : Int32) (n : Nat) (H0 : Heap) (hP : va_P (dC, dI) vwCl (kW b v dA g tm n) H0) (htm : tm = 0 ∨ tm = 1) (hbv : b ≠ v) (hkb : k 0 ≤ b) (hkv : k 0 ≤ v) (hg : kG g) (hn : n ≤ 16)   : Met l yJ4_length_8abf5 ww_J4_length_8abf5 ({ frames := 1, cells := 0, slots := 0, locals := 20 }) (va_Pc [.ref b] (fun U => U.heap = H0 ∧ kMJ dC dI dA k U)) (kQ0 (some (.int (iZ (((n : Nat) : Int))))) H0) 0 0 kN := by
  refine va_MetF (cc := cJ4_length_8abf5) (maxL := 1) (ret := (some .int)) (by decide +kernel) rfl ?_
  intro p e s m args below meth c s₁ B hml hv
  obtain ⟨rfl, hH, hM⟩ := hv
  subst hH
  have hAN : ∀ a, kAB b v s.heap.size a → k 0 ≤ a := kAB_N hkb hkv hM.1.2.1.1
  have hS : va_S (kAB b v s.heap.size) s.heap s.heap [] := va_S.rf
  have hD : va_D (kAB b v s.heap.size) ([(b, .inr (1, [.ref v, .int 0, .int tm, .int (iZ (((n : Nat) : Int)))])), (v, .inl (dA 2, 16, .inl (fun j => iZ (g j))))] : va_W) := kW_D hbv
  have hP : va_P (dC, dI) vwCl ([(b, .inr (1, [.ref v, .int 0, .int tm, .int (iZ (((n : Nat) : Int)))])), (v, .inl (dA 2, 16, .inl (fun j => iZ (g j))))] : va_W) s.heap := hP
  have hx := B.exec
  have hb := B.bytes
  have hr9 := B.returns
  have hts := atoms_spec (ws := ww_J4_length_8abf5) B.pre
  have hown : s.vm.findClass RJ4 = some m.cls := findClass_of_methodNamed B.named
  have hlocks := B.notSynchronized
  have hl := lv_entry ([.ref b]) (n := 1) (Nat.le_of_ble_eq_true rfl)
  rw [lg_entry_eq]
  generalize (lg_sl ([.ref b]) ++ List.replicate (1 - (lg_sl ([.ref b])).length) Slot.unset).toArray = ls at hl ⊢
  have hl : lv_has ls 1 [(0, .ref b)] := hl
  refine lv_aload_n hx hb dJ4_length_8abf5_0 rfl (lv_at hl 0 rfl) ?_
  refine kc0 (fun _ q => q) (va_runSU (As := []) (rest := []) ((hM.1.1.1 1 _ rfl).2) ⟨hx, hb, hml, hown, hts⟩ (c_J5_length_8abf5 l dC dI dA k b v (g) (tm) (n) _ hP htm hbv hkb hkv hg (by omega) ) (va_cwSU 0 hts (kg_SU mw412 mw408 mw93 mw407 mw43 rfl mw413) rfl rfl rfl (by decide +kernel) ⟨Nat.le_of_ble_eq_true rfl, Nat.le_of_ble_eq_true rfl⟩) ⟨fun a U g mk q => ⟨q.1, q.2.1, kMJ_call q.2.2⟩, va_recv hM.1.1 hP (ci := 1) (q0 := 0) rfl rfl, fun U hU hW => ⟨rfl, hU, kMJ_kept hM hS hAN hU hW⟩⟩ rfl rfl hl.1 rfl (lv_room (Nat.le_of_ble_eq_true rfl)) dJ4_length_8abf5_1 ⟨Nat.le_of_ble_eq_true rfl, Nat.le_of_ble_eq_true rfl⟩) ?_
  exact W.iret (v := iZ (((n : Nat) : Int))) hx hb hr9 (fun t ht hW => ⟨congrArg (fun z : Int => Outcome.returned (some (Value.int (iZ z)))) (show (((n : Nat) : Int)) = (((n : Nat) : Int)) from rfl), ht⟩) (fun q h => by cases h) dJ4_length_8abf5_4

abbrev ww_J5_append_3fe6f : List Cond := .code yJ5_append_3fe6f cJ5_append_3fe6f 2 (some (.object "java/lang/AbstractStringBuilder")) :: gT
set_option maxHeartbeats 4000000 in
set_option maxRecDepth 100000 in
/-- J5_append_3fe6f -/
theorem c_J5_append_3fe6f (l : Launch) (dC : Nat → ClassId) (dI : Nat → Nat → Nat) (dA : Nat → ClassId) (k : Nat → Nat) (b v : Nat) (g : Nat → Int) (tm : Int32) (n : Nat) (H0 : Heap) (hP : va_P (dC, dI) vwCl (kW b v dA g tm n) H0) (htm : tm = 0 ∨ tm = 1) (hbv : b ≠ v) (hkb : k 0 ≤ b) (hkv : k 0 ≤ v) (hg : kG g) (hn : n ≤ 16) (ch : Int) (h0 : 0 ≤ ch ∧ ch < 128) (h1 : n < 16) : Met l yJ5_append_3fe6f ww_J5_append_3fe6f ({ frames := 1, cells := 0, slots := 0, locals := 22 }) (va_Pc [.ref b, .int (iZ ch)] (fun U => U.heap = H0 ∧ kMJ dC dI dA k U)) (kQ2 (some (.ref b)) (gW dC dI dA b v (gu g n ch) (n + 1)) (kAB b v H0.size)) 0 0 (kAB b v H0.size) := by
  refine va_MetF (cc := cJ5_append_3fe6f) (maxL := 2) (ret := (some (.object "java/lang/AbstractStringBuilder"))) (by decide +kernel) rfl ?_
  intro p e s m args below meth c s₁ B hml hv
  obtain ⟨rfl, hH, hM⟩ := hv
  subst hH
  have hAN : ∀ a, kAB b v s.heap.size a → k 0 ≤ a := kAB_N hkb hkv hM.1.2.1.1
  have hS : va_S (kAB b v s.heap.size) s.heap s.heap [] := va_S.rf
  have hD : va_D (kAB b v s.heap.size) ([(b, .inr (1, [.ref v, .int 0, .int tm, .int (iZ (((n : Nat) : Int)))])), (v, .inl (dA 2, 16, .inl (fun j => iZ (g j))))] : va_W) := kW_D hbv
  have hP : va_P (dC, dI) vwCl ([(b, .inr (1, [.ref v, .int 0, .int tm, .int (iZ (((n : Nat) : Int)))])), (v, .inl (dA 2, 16, .inl (fun j => iZ (g j))))] : va_W) s.heap := hP
  have hx := B.exec
  have hb := B.bytes
  have hr9 := B.returns
  have hts := atoms_spec (ws := ww_J5_append_3fe6f) B.pre
  have hown : s.vm.findClass RJ5 = some m.cls := findClass_of_methodNamed B.named
  have hlocks := B.notSynchronized
  have hl := lv_entry ([.ref b, .int (iZ ch)]) (n := 2) (Nat.le_of_ble_eq_true rfl)
  rw [lg_entry_eq]
  generalize (lg_sl ([.ref b, .int (iZ ch)]) ++ List.replicate (2 - (lg_sl ([.ref b, .int (iZ ch)])).length) Slot.unset).toArray = ls at hl ⊢
  have hl : lv_has ls 2 [(0, .ref b), (1, .int (iZ ch))] := hl
  refine lv_aload_n hx hb dJ5_append_3fe6f_0 rfl (lv_at hl 0 rfl) ?_
  refine lv_aload_n hx hb dJ5_append_3fe6f_1 rfl (lv_at hl 0 rfl) ?_
  refine va_get (D := (dC, dI)) (ci := 1) (v := .int (iZ (((n : Nat) : Int)))) (C := RJ4) (T := TJ4) (N := 4) hx hb hts (fun w h => List.mem_cons_of_mem _ (gF_3_in h)) hown hM.1.1 hP 0 rfl rfl 3 (by decide) (hts _ (List.mem_cons_of_mem _ mw92)) (fun _ h9 => h9) rfl dJ5_append_3fe6f_2 ?_
  refine lv_iconst (v := iZ 1) hx hb dJ5_append_3fe6f_5 rfl ?_
  refine kz_iadd hx hb dJ5_append_3fe6f_6 ?_
  refine kc0v (fun _ q => q) (va_runU (As := [.int (iZ ((((n : Nat) : Int)) + 1))]) (rest := []) ⟨hx, hb, hml, hown, hts⟩ (c_J5_ensureCapacityInternal_d00df l dC dI dA k b v (g) (tm) (n) _ hP htm hbv hkb hkv hg (by omega) ((((n : Nat) : Int)) + 1) (by omega)) (va_cwU 1 hts (kg_U (C := RJ4) (owner := "java/lang/AbstractStringBuilder") (x := ⟨"java/lang/AbstractStringBuilder", "ensureCapacityInternal", "(I)V"⟩) mw266 mw1446 mwS0 mw267 mw43 rfl mw268) rfl rfl rfl rfl (by decide +kernel) ⟨Nat.le_of_ble_eq_true rfl, Nat.le_of_ble_eq_true rfl⟩) ⟨fun a U g mk q => ⟨q.1, q.2.1, kMJ_call q.2.2⟩, va_recv hM.1.1 hP (ci := 1) (q0 := 0) rfl rfl, fun U hU hW => ⟨rfl, hU, kMJ_kept hM hS hAN hU hW⟩⟩ rfl rfl hl.1 rfl (lv_room (Nat.le_of_ble_eq_true rfl)) dJ5_append_3fe6f_7 ⟨Nat.le_of_ble_eq_true rfl, Nat.le_of_ble_eq_true rfl⟩) ?_
  refine lv_aload_n hx hb dJ5_append_3fe6f_10 rfl (lv_at hl 0 rfl) ?_
  refine kc0 (fun _ q => q) (va_runU (As := []) (rest := []) ⟨hx, hb, hml, hown, hts⟩ (c_J5_isLatin1_aae02 l dC dI dA k b v (g) (tm) (n) _ hP htm hbv hkb hkv hg (by omega) ) (va_cwU 0 hts (kg_U (C := RJ4) (owner := "java/lang/AbstractStringBuilder") (x := ⟨"java/lang/AbstractStringBuilder", "isLatin1", "()Z"⟩) mw298 mw300 mw301 mw299 mw43 rfl mw302) rfl rfl rfl rfl (by decide +kernel) ⟨Nat.le_of_ble_eq_true rfl, Nat.le_of_ble_eq_true rfl⟩) ⟨fun a U g mk q => ⟨q.1, q.2.1, kMJ_call q.2.2⟩, va_recv hM.1.1 hP (ci := 1) (q0 := 0) rfl rfl, fun U hU hW => ⟨rfl, hU, kMJ_kept hM hS hAN hU hW⟩⟩ rfl rfl hl.1 rfl (lv_room (Nat.le_of_ble_eq_true rfl)) dJ5_append_3fe6f_11 ⟨Nat.le_of_ble_eq_true rfl, Nat.le_of_ble_eq_true rfl⟩) ?_
  refine kz_ifb_eq (tgt := 45) hx hb  dJ5_append_3fe6f_14 (by decide) (fun c_1 => absurd c_1 (by decide)) (fun c_1 => ?_)
  refine lv_iload_n hx hb dJ5_append_3fe6f_17 rfl (lv_at hl 1 rfl) ?_
  refine kc0 (fun _ q => q) (va_runS (As := [.int (iZ ch)]) (rest := []) ⟨hx, hb, hml, hown, hts⟩ (c_J1_canEncode_fc78d l _ (ch) (by omega)) (va_cwS 1 hts (kg_S mw470 mw471 mw58 rfl mw472) rfl rfl rfl hdS_J1_canEncode_fc78d ⟨Nat.le_of_ble_eq_true rfl, Nat.le_of_ble_eq_true rfl⟩) ⟨fun a U g mk q => q, fun U hU hW => ⟨rfl, hU⟩⟩ rfl rfl hl.1 rfl (lv_room (Nat.le_of_ble_eq_true rfl)) dJ5_append_3fe6f_18 ⟨Nat.le_of_ble_eq_true rfl, Nat.le_of_ble_eq_true rfl⟩) ?_
  refine kz_ifb_eq (tgt := 45) hx hb  dJ5_append_3fe6f_21 (by decide) (fun c_2 => absurd c_2 (by decide)) (fun c_2 => ?_)
  refine lv_aload_n hx hb dJ5_append_3fe6f_24 rfl (lv_at hl 0 rfl) ?_
  refine va_get (D := (dC, dI)) (ci := 1) (v := .ref v) (C := RJ4) (T := TJ4) (N := 4) hx hb hts (fun w h => List.mem_cons_of_mem _ (gF_3_in h)) hown hM.1.1 hP 0 rfl rfl 0 (by decide) (hts _ (List.mem_cons_of_mem _ mw88)) (fun _ h9 => h9) rfl dJ5_append_3fe6f_25 ?_
  refine lv_aload_n hx hb dJ5_append_3fe6f_28 rfl (lv_at hl 0 rfl) ?_
  refine lv_dup hx hb dJ5_append_3fe6f_29 rfl ?_
  refine va_get (D := (dC, dI)) (ci := 1) (v := .int (iZ (((n : Nat) : Int)))) (C := RJ4) (T := TJ4) (N := 4) hx hb hts (fun w h => List.mem_cons_of_mem _ (gF_3_in h)) hown hM.1.1 hP 0 rfl rfl 3 (by decide) (hts _ (List.mem_cons_of_mem _ mw92)) (fun _ h9 => h9) rfl dJ5_append_3fe6f_30 ?_
  refine lv_dup_x1 hx hb dJ5_append_3fe6f_33 rfl rfl ?_
  refine lv_iconst (v := iZ 1) hx hb dJ5_append_3fe6f_34 rfl ?_
  refine kz_iadd hx hb dJ5_append_3fe6f_35 ?_
  refine va_put (D := (dC, dI)) (ci := 1) (v := .int (iZ ((((n : Nat) : Int)) + 1))) (ty := .int) (C := RJ4) (T := TJ4) (N := 4) hx hb hts (fun w h => List.mem_cons_of_mem _ (gF_3_in h)) tyJ4 tyJ4_ok nmJ4 hown hM.1.1 hP hD hS 0 rfl rfl 3 (by decide) (hts _ (List.mem_cons_of_mem _ mw92)) (fun _ h9 => h9) rfl (by decide +kernel) rfl rfl (Nat.le_of_ble_eq_true rfl) dJ5_append_3fe6f_36 (fun H locs hP hD hS => ?_)
  have hP : va_P (dC, dI) vwCl ([(b, .inr (1, [.ref v, .int 0, .int tm, .int (iZ ((((n : Nat) : Int)) + 1))])), (v, .inl (dA 2, 16, .inl (fun j => iZ (g j))))] : va_W) _ := hP
  have hD : va_D (kAB b v s.heap.size) ([(b, .inr (1, [.ref v, .int 0, .int tm, .int (iZ ((((n : Nat) : Int)) + 1))])), (v, .inl (dA 2, 16, .inl (fun j => iZ (g j))))] : va_W) := hD
  refine lv_iload_n hx hb dJ5_append_3fe6f_39 rfl (lv_at hl 1 rfl) ?_
  refine lv_i2b (v := iZ ch) hx hb dJ5_append_3fe6f_40 (iZ_b (by omega)) ?_
  refine kz_bast hx hb hM.1.1 hP hD hS 1 rfl (by omega) (by omega) (by omega) dJ5_append_3fe6f_41 (fun H locs hP hD hS => ?_)
  have hP : va_P (dC, dI) vwCl ([(b, .inr (1, [.ref v, .int 0, .int tm, .int (iZ ((((n : Nat) : Int)) + 1))])), (v, .inl (dA 2, 16, .inl (fun j => iZ ((gu g ((((n : Nat) : Int))).toNat ch) j))))] : va_W) _ := hP
  have hD : va_D (kAB b v s.heap.size) ([(b, .inr (1, [.ref v, .int 0, .int tm, .int (iZ ((((n : Nat) : Int)) + 1))])), (v, .inl (dA 2, 16, .inl (fun j => iZ ((gu g ((((n : Nat) : Int))).toNat ch) j))))] : va_W) := hD
  refine lv_goto (tgt := 75) hx hb dJ5_append_3fe6f_42 (by decide) ?_
  refine lv_aload_n hx hb dJ5_append_3fe6f_75 rfl (lv_at hl 0 rfl) ?_
  have hP : va_P (dC, dI) vwCl (kW b v dA (gu g ((((n : Nat) : Int))).toNat ch) (tm) (n + 1)) _ := hP.sub [0, 1] rfl
  exact W.aret (rt := .object "java/lang/AbstractStringBuilder") hx hb hr9 (Or.inl ⟨_, rfl⟩) (Or.inr ⟨_, rfl⟩) (fun t ht hW => ⟨⟨rfl, gW_cast ⟨_, htm, by rw [ht]; exact hP⟩ (show (gu g ((((n : Nat) : Int))).toNat ch) = (gu g n ch) from by rw [Int.toNat_natCast]) (show (n + 1 : Nat) = n + 1 from rfl)⟩, hS.F ht⟩) hS.2.2 dJ5_append_3fe6f_76 hlocks

abbrev ww_J4_append_cf468 : List Cond := .code yJ4_append_cf468 cJ4_append_cf468 2 (some (.object "java/lang/StringBuilder")) :: gT
set_option maxHeartbeats 4000000 in
set_option maxRecDepth 100000 in
/-- J4_append_cf468 -/
theorem c_J4_append_cf468 (l : Launch) (dC : Nat → ClassId) (dI : Nat → Nat → Nat) (dA : Nat → ClassId) (k : Nat → Nat) (b v : Nat) (g : Nat → Int) (tm : Int32) (n : Nat) (H0 : Heap) (hP : va_P (dC, dI) vwCl (kW b v dA g tm n) H0) (htm : tm = 0 ∨ tm = 1) (hbv : b ≠ v) (hkb : k 0 ≤ b) (hkv : k 0 ≤ v) (hg : kG g) (hn : n ≤ 16) (ch : Int) (h0 : 0 ≤ ch ∧ ch < 128) (h1 : n < 16) : Met l yJ4_append_cf468 ww_J4_append_cf468 ({ frames := 2, cells := 0, slots := 0, locals := 43 }) (va_Pc [.ref b, .int (iZ ch)] (fun U => U.heap = H0 ∧ kMJ dC dI dA k U)) (kQ2 (some (.ref b)) (gW dC dI dA b v (gu g n ch) (n + 1)) (kAB b v H0.size)) 0 0 (kAB b v H0.size) := by
  refine va_MetF (cc := cJ4_append_cf468) (maxL := 2) (ret := (some (.object "java/lang/StringBuilder"))) (by decide +kernel) rfl ?_
  intro p e s m args below meth c s₁ B hml hv
  obtain ⟨rfl, hH, hM⟩ := hv
  subst hH
  have hAN : ∀ a, kAB b v s.heap.size a → k 0 ≤ a := kAB_N hkb hkv hM.1.2.1.1
  have hS : va_S (kAB b v s.heap.size) s.heap s.heap [] := va_S.rf
  have hD : va_D (kAB b v s.heap.size) ([(b, .inr (1, [.ref v, .int 0, .int tm, .int (iZ (((n : Nat) : Int)))])), (v, .inl (dA 2, 16, .inl (fun j => iZ (g j))))] : va_W) := kW_D hbv
  have hP : va_P (dC, dI) vwCl ([(b, .inr (1, [.ref v, .int 0, .int tm, .int (iZ (((n : Nat) : Int)))])), (v, .inl (dA 2, 16, .inl (fun j => iZ (g j))))] : va_W) s.heap := hP
  have hx := B.exec
  have hb := B.bytes
  have hr9 := B.returns
  have hts := atoms_spec (ws := ww_J4_append_cf468) B.pre
  have hown : s.vm.findClass RJ4 = some m.cls := findClass_of_methodNamed B.named
  have hlocks := B.notSynchronized
  have hl := lv_entry ([.ref b, .int (iZ ch)]) (n := 2) (Nat.le_of_ble_eq_true rfl)
  rw [lg_entry_eq]
  generalize (lg_sl ([.ref b, .int (iZ ch)]) ++ List.replicate (2 - (lg_sl ([.ref b, .int (iZ ch)])).length) Slot.unset).toArray = ls at hl ⊢
  have hl : lv_has ls 2 [(0, .ref b), (1, .int (iZ ch))] := hl
  refine lv_aload_n hx hb dJ4_append_cf468_0 rfl (lv_at hl 0 rfl) ?_
  refine lv_iload_n hx hb dJ4_append_cf468_1 rfl (lv_at hl 1 rfl) ?_
  refine kc2 (va_runSU (As := [.int (iZ ch)]) (rest := []) ((hM.1.1.1 1 _ rfl).2) ⟨hx, hb, hml, hown, hts⟩ (c_J5_append_3fe6f l dC dI dA k b v (g) (tm) (n) _ hP htm hbv hkb hkv hg (by omega) (ch) (by omega) (by omega)) (va_cwSU 1 hts (kg_SU mw467 mw1452 mw93 mw468 mw43 rfl mw469) rfl rfl rfl (by decide +kernel) ⟨Nat.le_of_ble_eq_true rfl, Nat.le_of_ble_eq_true rfl⟩) ⟨fun a U g mk q => ⟨q.1, q.2.1, kMJ_call q.2.2⟩, va_recv hM.1.1 hP (ci := 1) (q0 := 0) rfl rfl, fun U hU hW => ⟨rfl, hU, kMJ_kept hM hS hAN hU hW⟩⟩ rfl rfl hl.1 rfl (lv_room (Nat.le_of_ble_eq_true rfl)) dJ4_append_cf468_2 ⟨Nat.le_of_ble_eq_true rfl, Nat.le_of_ble_eq_true rfl⟩) hS (fun a _ h => kAB_up hS.1 a h) (fun a h => kAB_up hS.1 a h) (fun H1 locs hG hz9 hk9 hS => ?_)
  obtain ⟨tm_1, htm_1, hP9⟩ := hG
  have hP : va_P (dC, dI) vwCl ([(b, .inr (1, [.ref v, .int 0, .int tm_1, .int (iZ (((n + 1 : Nat) : Int)))])), (v, .inl (dA 2, 16, .inl (fun j => iZ ((gu g n ((ch))) j))))] : va_W) H1 := hP9
  have hD : va_D (kAB b v s.heap.size) ([(b, .inr (1, [.ref v, .int 0, .int tm_1, .int (iZ (((n + 1 : Nat) : Int)))])), (v, .inl (dA 2, 16, .inl (fun j => iZ ((gu g n ((ch))) j))))] : va_W) := kW_D hbv
  generalize H1 = H at hP hS ⊢
  refine lv_pop hx hb dJ4_append_cf468_5 rfl ?_
  refine lv_aload_n hx hb dJ4_append_cf468_6 rfl (lv_at hl 0 rfl) ?_
  exact W.aret (rt := .object "java/lang/StringBuilder") hx hb hr9 (Or.inl ⟨_, rfl⟩) (Or.inr ⟨_, rfl⟩) (fun t ht hW => ⟨⟨rfl, gW_cast ⟨_, htm_1, by rw [ht]; exact hP⟩ (show (gu g n ((ch))) = (gu g n ch) from by rfl) (show (n + 1 : Nat) = n + 1 from rfl)⟩, hS.F ht⟩) hS.2.2 dJ4_append_cf468_7 hlocks

