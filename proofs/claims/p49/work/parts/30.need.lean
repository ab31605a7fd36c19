/-! what the machine holds for all contracts: the classes, the arrays' classes, the statics, the texts; k 0: where the new cells begin -/
def kT (dA : Nat → ClassId) : List (ClassId × FieldType) := [(dA 0, .int), (dA 1, .long), (dA 2, .byte), (dA 3, .array .int)]
def kN0 (k : Nat → Nat) : Nat → Prop := fun q => k 0 ≤ q
def kBad1 : List Cond := (vx_atS RX1 246 "java/lang/IndexOutOfBoundsException" ["java/lang/RuntimeException", "java/lang/Exception"]).filter (fun w => !goodWord w)
def kBad2 : List Cond := (vx_atS RX1 253 "java/lang/IllegalArgumentException" ["java/lang/RuntimeException", "java/lang/Exception"]).filter (fun w => !goodWord w)
theorem kBad1_ok : ∀ w ∈ kBad1, (w.faceAtom && w.onTables) = true := List.all_eq_true.mp (by decide +kernel)
theorem kBad2_ok : ∀ w ∈ kBad2, (w.faceAtom && w.onTables) = true := List.all_eq_true.mp (by decide +kernel)
theorem kface {w : Cond} {a a' : Array Value} {s U : State} (hf : (w.faceAtom && w.onTables) = true) (hW : s.WarmedH U.vm) (h : w.before a s = true) : w.before a' U = true := by
  obtain ⟨h1, h2⟩ := Bool.and_eq_true_iff.mp hf
  have h3 := Cond.faceAtom_setVm hW.alike w h1 h
  rw [Cond.onTables_vm (A' := a') (U' := U) U.vm w h2] at h3
  exact h3
theorem kface0 {w : Cond} {a a' : Array Value} {s U : State} (hf : (w.faceAtom && w.onTables) = true) (hv : U.vm = s.vm) (h : w.before a s = true) : w.before a' U = true := by
  obtain ⟨h1, h2⟩ := Bool.and_eq_true_iff.mp hf
  have h3 : w.before a (s.setVm s.vm) = true := h
  rw [Cond.onTables_vm (A' := a') (U' := U) s.vm w h2, ← hv] at h3
  exact h3
def kB (k : Nat → Nat) (U : State) : Prop :=
  k 0 ≤ U.heap.size ∧ vk_R RX1 244 "a place on the shelf is 0 to 3" (k 1) U ∧ vk_R RX1 251 "a value is beyond what is told for it" (k 2) U ∧ vx_Zq Bundle.tN "UNASSIGNED_STACK" Bundle.steD (kN0 k) U U.heap ∧ vx_Zq Bundle.tN "SUPPRESSED_SENTINEL" Bundle.listD (kN0 k) U U.heap
    ∧ va_Z RX3 "LENGTHS" "[I" (.ref (k 3)) (kN0 k) U U.heap ∧ va_T .int (k 3) 12 (fun j => .int (iZ (mlen false (j + 1)))) (kN0 k) U U.heap
    ∧ va_Z RX3 "UNITS" "[I" (.ref (k 4)) (kN0 k) U U.heap ∧ va_T .int (k 4) 5 (fun j => .int (iZ (usize j))) (kN0 k) U U.heap
    ∧ (∀ w ∈ kBad1, w.before #[] U = true) ∧ (∀ w ∈ kBad2, w.before #[] U = true) ∧ va_Nc "java/lang/IllegalArgumentException" "java/lang/IndexOutOfBoundsException" U
/-- the class of the arrays of int arrays -/
def kAA (dA : Nat → ClassId) (U : State) : Prop := ∃ (ka ki : Class), U.vm.classes[dA 3]? = some ka ∧ ka.kind = .array (dA 0) (.array .int) ∧ U.vm.classes[dA 0]? = some ki ∧ (Cond.arrayOver (.array .int)).before #[] U = true
theorem kAA.moved {dA : Nat → ClassId} {u U : State} (hvm : u.vm.Alike U.vm) (h : kAA dA u) : kAA dA U := by
  obtain ⟨ka, ki, h1, h2, h3, h8⟩ := h
  obtain ⟨ka1, h4, h5⟩ := hvm.2.2 _ _ h1
  obtain ⟨ki1, h6, h7⟩ := hvm.2.2 _ _ h3
  exact ⟨ka1, ki1, h4, by rw [h5]; exact h2, h6, over_moved hvm h8⟩
def kM (dC : Nat → ClassId) (dI : Nat → Nat → Nat) (dA : Nat → ClassId) (k : Nat → Nat) (U : State) : Prop := va_K (dC, dI) vwCl (kT dA) U ∧ kB k U ∧ kAA dA U
theorem kB_call {k : Nat → Nat} {U : State} {g : JFrame} {mk : MethodId} {a : Array Value} (h : kB k U) : kB k (U.calling g mk a) := by
  obtain ⟨h0, h1, h2, h3, h4, h5, h6, h7, h8, h9, h10, h11⟩ := h
  exact ⟨h0, vk_R.same rfl h1, vk_R.same rfl h2, vx_Zq.moved (u := U) (U := U.calling g mk a) (Vm.Alike.refl U.vm) h3, vx_Zq.moved (u := U) (U := U.calling g mk a) (Vm.Alike.refl U.vm) h4, va_Z.moved (u := U) (U := U.calling g mk a) (Vm.Alike.refl U.vm) h5, va_T.moved (u := U) (U := U.calling g mk a) (Vm.Alike.refl U.vm) h6, va_Z.moved (u := U) (U := U.calling g mk a) (Vm.Alike.refl U.vm) h7, va_T.moved (u := U) (U := U.calling g mk a) (Vm.Alike.refl U.vm) h8, fun w hw => kface0 (s := U) (U := U.calling g mk a) (a := #[]) (kBad1_ok w hw) rfl (h9 w hw), fun w hw => kface0 (s := U) (U := U.calling g mk a) (a := #[]) (kBad2_ok w hw) rfl (h10 w hw), va_Nc.moved (u := U) (U := U.calling g mk a) (Vm.Alike.refl U.vm) h11⟩
theorem kM_call {dC : Nat → ClassId} {dI : Nat → Nat → Nat} {dA : Nat → ClassId} {k : Nat → Nat} {U : State} {g : JFrame} {mk : MethodId} {a : Array Value} (h : kM dC dI dA k U) : kM dC dI dA k (U.calling g mk a) :=
  ⟨va_K.moved (u := U) (U := U.calling g mk a) (Vm.Alike.refl U.vm) h.1, kB_call h.2.1, kAA.moved (u := U) (U := U.calling g mk a) (Vm.Alike.refl U.vm) h.2.2⟩
theorem kB_kept {k : Nat → Nat} {s U : State} {A : Nat → Prop} {H : Heap} {locs : List Loc} (h : kB k s) (hS : va_S A s.heap H locs) (hA : ∀ q, A q → k 0 ≤ q) (hU : U.heap = H) (hW : s.WarmedH U.vm) : kB k U := by
  obtain ⟨h0, h1, h2, h3, h4, h5, h6, h7, h8, h9, h10, h11⟩ := h
  have hq : ∀ a : Nat, a < s.heap.size → ¬ kN0 k a → U.heap[a]? = s.heap[a]? := fun a ha hn => by rw [hU]; exact hS.2.1 a ha (fun z => hn (hA a z))
  exact ⟨by rw [hU]; exact Nat.le_trans h0 hS.1, vk_R.warm hW h1, vk_R.warm hW h2, (vx_Zq.moved hW.alike h3).kept hq, (vx_Zq.moved hW.alike h4).kept hq, (va_Z.moved hW.alike h5).kept hq, (va_T.moved hW.alike h6).kept hq, (va_Z.moved hW.alike h7).kept hq, (va_T.moved hW.alike h8).kept hq, fun w hw => kface (kBad1_ok w hw) hW (h9 w hw), fun w hw => kface (kBad2_ok w hw) hW (h10 w hw), va_Nc.moved hW.alike h11⟩
theorem kM_kept {dC : Nat → ClassId} {dI : Nat → Nat → Nat} {dA : Nat → ClassId} {k : Nat → Nat} {s U : State} {A : Nat → Prop} {H : Heap} {locs : List Loc} (h : kM dC dI dA k s) (hS : va_S A s.heap H locs) (hA : ∀ q, A q → k 0 ≤ q) (hU : U.heap = H) (hW : s.WarmedH U.vm) : kM dC dI dA k U :=
  ⟨va_K.moved hW.alike h.1, kB_kept h.2.1 hS hA hU hW, h.2.2.moved hW.alike⟩
theorem kB_same {k : Nat → Nat} {s U : State} (h : kB k s) (hU : U.heap = s.heap) (hW : s.WarmedH U.vm) : kB k U := kB_kept (A := fun _ => False) h va_S.rf (fun _ z => z.elim) hU hW
theorem kM_same {dC : Nat → ClassId} {dI : Nat → Nat → Nat} {dA : Nat → ClassId} {k : Nat → Nat} {s U : State} (h : kM dC dI dA k s) (hU : U.heap = s.heap) (hW : s.WarmedH U.vm) : kM dC dI dA k U := ⟨va_K.moved hW.alike h.1, kB_same h.2.1 hU hW, h.2.2.moved hW.alike⟩
/-- a callee that answers v in the heap as it was, and P holds; or throws -/
def kQx (P : Prop) (v : Option Value) (H0 : Heap) : Array Value → State → Outcome → State → Prop := fun _ _ oc t => oc = .returned v ∧ t.heap = H0 ∧ P
def kXC (X : String → Prop) : String → State → State → Prop := fun E st t => X E ∧ st.heap.size ≤ t.heap.size ∧ ∀ q, q < st.heap.size → t.heap[q]? = st.heap[q]?
section
variable {p : Program} {l : Launch} {e : Env} {R : Room} {s : State} {m : MethodId} {args : Array Value} {below : List Frame} {meth : Method} {c : Code} {H : Heap} {locs : List Loc} {cells slots : Nat} {Q : State → Prop}
variable {cc : ByteArray} {pc : Nat} {ls : Array Slot} {rest : List Value}
/-- a call of a method that may throw, from a heap that is the start's: what is thrown goes out -/
theorem kcxo {a : Array Value} {st0 : List Value} {v : Option Value} {P : Prop} {X X' : String → Prop} {free free' : Addr → Prop} {Qc : Array Value → State → Outcome → State → Prop} {mc' ms' mc ms : Nat} (hfr : ∀ q, ¬ free q)
    (hr : vx_Run p l e R s m args below meth c s.heap [] cells slots mc ms (F0 m pc ls st0) rest (kQx P v s.heap a) (kXC X) free)
    (hno : ∀ x ∈ c.exceptionTable.toList, False) (hlocks : meth.locks = false) (hX : ∀ E, X E → X' E) (hc : cells + mc ≤ mc') (hs : slots + ms ≤ ms')
    (kk : P → W p l e R s m args below meth c s.heap [] (cells + mc) (slots + ms) (vx_MQ below Qc (kXC X') args s mc' ms' free') (F0 m (pc + 3) ls (v.toList ++ rest))) :
    W p l e R s m args below meth c s.heap [] cells slots (vx_MQ below Qc (kXC X') args s mc' ms' free') (F0 m pc ls st0) := by
  intro T hT XX
  rcases hr T hT XX with ⟨v1, st₀, t, T', L, h0, X', hL, e1, e2, ⟨hv, hh, hP⟩, st⟩ | ⟨q, st₀, t, T', L, E, ce, h0, XS, hL, e1, e2, hx, hq, hvm, hcl, st⟩
  · cases hv
    have hL0 : L = [] := by
      cases L with
      | nil => rfl
      | cons q L => exact absurd (hL q List.mem_cons_self) (hfr _)
    subst hL0
    rw [List.append_nil] at X'
    obtain ⟨t2, a1, b1⟩ := kk hP T' (by rw [e1, hh]) X'
    exact ⟨t2, st t2 a1, b1⟩
  · have hL0 : L = [] := by
      cases L with
      | nil => rfl
      | cons q L => exact absurd (hL q List.mem_cons_self) (hfr _)
    subst hL0
    rw [List.append_nil] at XS
    obtain ⟨x1, x2, x3⟩ := hx
    rw [h0] at x2 x3
    have hout := vx_out (p := p) (l := l) (e := e) (R := R) (s := s) (m := m) (args := args) (below := below) (meth := meth) (c := c) (H := t.heap) (locs := []) (cells := cells + mc) (slots := slots + ms) (pc := pc) (ls := ls) (rest := rest) (E := E) (ce := ce) (q := q) (Qc := Qc) (XC := kXC X') (free := free') (mc := mc') (ms := ms') (fun x hx9 => absurd (hno x hx9) (fun z => z)) hlocks hq hvm hcl
      (fun t9 ht9 _ => ⟨hX E x1, by rw [ht9]; exact x2, fun q9 hq9 => by rw [ht9]; exact x3 q9 hq9⟩) (fun z h => by cases h) hc hs
    obtain ⟨t2, a1, b1⟩ := hout T' e1 XS
    exact ⟨t2, st.trans a1, b1⟩
end
abbrev ww_X1_needPlace : List Cond := .code yX1_needPlace cX1_needPlace 1 none :: gT
set_option maxHeartbeats 4000000 in
set_option maxRecDepth 100000 in
theorem c_X1_needPlace (l : Launch) (hst : l.stackTraces = false) (k : Nat → Nat) (H0 : Heap) (pl : Int) (h0 : -2147483648 ≤ pl ∧ pl < 2147483648) : vx_Met l yX1_needPlace ww_X1_needPlace ({ frames := 8, cells := 1, slots := 6, locals := 300 }) (va_Pc [.int (iZ pl)] (fun U => U.heap = H0 ∧ kB k U)) (kQx (0 ≤ pl ∧ pl ≤ 3) none H0) (kXC (fun E => E = "java/lang/IndexOutOfBoundsException" ∧ ¬ (0 ≤ pl ∧ pl ≤ 3))) 1 6 kN := by
  refine vx_ofW (cc := cX1_needPlace) (maxL := 1) (ret := none) (by decide) rfl ?_
  intro p e s m args below meth c s₁ B hml hno hv
  obtain ⟨rfl, hH, hB⟩ := hv
  subst hH
  have hx := B.exec
  have hb := B.bytes
  have hr := B.returns
  have hts := atoms_spec (ws := ww_X1_needPlace) B.pre
  have hown : s.vm.findClass RX1 = some m.cls := findClass_of_methodNamed B.named
  have hlocks := B.notSynchronized
  have hl := lv_entry ([.int (iZ pl)]) (n := 1) (Nat.le_of_ble_eq_true rfl)
  rw [lg_entry_eq]
  generalize (lg_sl ([.int (iZ pl)]) ++ List.replicate (1 - (lg_sl ([.int (iZ pl)])).length) Slot.unset).toArray = ls at hl ⊢
  have hl : lv_has ls 1 [(0, .int (iZ pl))] := hl
  refine lv_iload_n hx hb dX1_needPlace_0 rfl (lv_at hl 0 rfl) ?_
  refine kz_if_lt (tgt := 9) hx hb (by omega) dX1_needPlace_1 (by decide) (fun c_1 => ?_) (fun c_1 => ?_)
  · exact vx_throwS (A := kN0 k) hx hb hst hown (by decide +kernel) (by decide +kernel) (hts _ (List.mem_cons_of_mem _ mw227)) (hts _ (List.mem_cons_of_mem _ mw49)) (hB.2.1) (vx_hat (fun w h => hts w (List.mem_cons_of_mem _ (gS_1_in h))) (fun _ h => h) (fun w hw => kface0 (kBad1_ok w hw) rfl (hB.2.2.2.2.2.2.2.2.2.1 w hw))) (by decide +kernel) hB.2.2.2.1 hB.2.2.2.2.1 va_S.rf (by rw [hml]; exact hl.1) dX1_needPlace_9 dX1_needPlace_12 dX1_needPlace_13 dX1_needPlace_15 dX1_needPlace_18 (fun x h => absurd (hno x h) (fun z => z)) (Nat.le_of_ble_eq_true rfl) (Nat.le_of_ble_eq_true rfl) (Nat.le_refl _) (Nat.le_refl _) hlocks (fun t _ h8 h9 => ⟨⟨rfl, by omega⟩, h8, h9⟩) (fun z h => by cases h) (Nat.le_refl _) (Nat.le_refl _)
  · refine lv_iload_n hx hb dX1_needPlace_4 rfl (lv_at hl 0 rfl) ?_
    refine lv_iconst (v := iZ 4) hx hb dX1_needPlace_5 rfl ?_
    refine kz_icmp_lt (tgt := 19) hx hb (by omega) (by omega) dX1_needPlace_6 (by decide) (fun c_2 => ?_) (fun c_2 => ?_)
    · refine vx_ret ?_
      refine W.widen (k := 1) (n := 6) (Nat.le_of_ble_eq_true rfl) (Nat.le_of_ble_eq_true rfl) ?_
      exact W.vret hx hb hr (fun t ht hW => ⟨rfl, ht, by omega⟩) (fun q h => by cases h) dX1_needPlace_19
    · exact vx_throwS (A := kN0 k) hx hb hst hown (by decide +kernel) (by decide +kernel) (hts _ (List.mem_cons_of_mem _ mw227)) (hts _ (List.mem_cons_of_mem _ mw49)) (hB.2.1) (vx_hat (fun w h => hts w (List.mem_cons_of_mem _ (gS_1_in h))) (fun _ h => h) (fun w hw => kface0 (kBad1_ok w hw) rfl (hB.2.2.2.2.2.2.2.2.2.1 w hw))) (by decide +kernel) hB.2.2.2.1 hB.2.2.2.2.1 va_S.rf (by rw [hml]; exact hl.1) dX1_needPlace_9 dX1_needPlace_12 dX1_needPlace_13 dX1_needPlace_15 dX1_needPlace_18 (fun x h => absurd (hno x h) (fun z => z)) (Nat.le_of_ble_eq_true rfl) (Nat.le_of_ble_eq_true rfl) (Nat.le_refl _) (Nat.le_refl _) hlocks (fun t _ h8 h9 => ⟨⟨rfl, by omega⟩, h8, h9⟩) (fun z h => by cases h) (Nat.le_refl _) (Nat.le_refl _)

abbrev ww_X1_needWithin : List Cond := .code yX1_needWithin cX1_needWithin 3 none :: gT
set_option maxHeartbeats 4000000 in
set_option maxRecDepth 100000 in
theorem c_X1_needWithin (l : Launch) (hst : l.stackTraces = false) (k : Nat → Nat) (H0 : Heap) (v0 : Int) (a0 : Int) (b0 : Int) (h0 : -2147483648 ≤ v0 ∧ v0 < 2147483648) (h1 : -2147483648 ≤ a0 ∧ a0 < 2147483648) (h2 : -2147483648 ≤ b0 ∧ b0 < 2147483648) : vx_Met l yX1_needWithin ww_X1_needWithin ({ frames := 8, cells := 1, slots := 6, locals := 300 }) (va_Pc [.int (iZ v0), .int (iZ a0), .int (iZ b0)] (fun U => U.heap = H0 ∧ kB k U)) (kQx (a0 ≤ v0 ∧ v0 ≤ b0) none H0) (kXC (fun E => E = "java/lang/IllegalArgumentException" ∧ ¬ (a0 ≤ v0 ∧ v0 ≤ b0))) 1 6 kN := by
  refine vx_ofW (cc := cX1_needWithin) (maxL := 3) (ret := none) (by decide) rfl ?_
  intro p e s m args below meth c s₁ B hml hno hv
  obtain ⟨rfl, hH, hB⟩ := hv
  subst hH
  have hx := B.exec
  have hb := B.bytes
  have hr := B.returns
  have hts := atoms_spec (ws := ww_X1_needWithin) B.pre
  have hown : s.vm.findClass RX1 = some m.cls := findClass_of_methodNamed B.named
  have hlocks := B.notSynchronized
  have hl := lv_entry ([.int (iZ v0), .int (iZ a0), .int (iZ b0)]) (n := 3) (Nat.le_of_ble_eq_true rfl)
  rw [lg_entry_eq]
  generalize (lg_sl ([.int (iZ v0), .int (iZ a0), .int (iZ b0)]) ++ List.replicate (3 - (lg_sl ([.int (iZ v0), .int (iZ a0), .int (iZ b0)])).length) Slot.unset).toArray = ls at hl ⊢
  have hl : lv_has ls 3 [(0, .int (iZ v0)), (1, .int (iZ a0)), (2, .int (iZ b0))] := hl
  refine lv_iload_n hx hb dX1_needWithin_0 rfl (lv_at hl 0 rfl) ?_
  refine lv_iload_n hx hb dX1_needWithin_1 rfl (lv_at hl 1 rfl) ?_
  refine kz_icmp_lt (tgt := 10) hx hb (by omega) (by omega) dX1_needWithin_2 (by decide) (fun c_1 => ?_) (fun c_1 => ?_)
  · exact vx_throwS (A := kN0 k) hx hb hst hown (by decide +kernel) (by decide +kernel) (hts _ (List.mem_cons_of_mem _ mw231)) (hts _ (List.mem_cons_of_mem _ mw50)) (hB.2.2.1) (vx_hat (fun w h => hts w (List.mem_cons_of_mem _ (gS_2_in h))) (fun _ h => h) (fun w hw => kface0 (kBad2_ok w hw) rfl (hB.2.2.2.2.2.2.2.2.2.2.1 w hw))) (by decide +kernel) hB.2.2.2.1 hB.2.2.2.2.1 va_S.rf (by rw [hml]; exact hl.1) dX1_needWithin_10 dX1_needWithin_13 dX1_needWithin_14 dX1_needWithin_16 dX1_needWithin_19 (fun x h => absurd (hno x h) (fun z => z)) (Nat.le_of_ble_eq_true rfl) (Nat.le_of_ble_eq_true rfl) (Nat.le_refl _) (Nat.le_refl _) hlocks (fun t _ h8 h9 => ⟨⟨rfl, by omega⟩, h8, h9⟩) (fun z h => by cases h) (Nat.le_refl _) (Nat.le_refl _)
  · refine lv_iload_n hx hb dX1_needWithin_5 rfl (lv_at hl 0 rfl) ?_
    refine lv_iload_n hx hb dX1_needWithin_6 rfl (lv_at hl 2 rfl) ?_
    refine kz_icmp_le (tgt := 20) hx hb (by omega) (by omega) dX1_needWithin_7 (by decide) (fun c_2 => ?_) (fun c_2 => ?_)
    · refine vx_ret ?_
      refine W.widen (k := 1) (n := 6) (Nat.le_of_ble_eq_true rfl) (Nat.le_of_ble_eq_true rfl) ?_
      exact W.vret hx hb hr (fun t ht hW => ⟨rfl, ht, by omega⟩) (fun q h => by cases h) dX1_needWithin_20
    · exact vx_throwS (A := kN0 k) hx hb hst hown (by decide +kernel) (by decide +kernel) (hts _ (List.mem_cons_of_mem _ mw231)) (hts _ (List.mem_cons_of_mem _ mw50)) (hB.2.2.1) (vx_hat (fun w h => hts w (List.mem_cons_of_mem _ (gS_2_in h))) (fun _ h => h) (fun w hw => kface0 (kBad2_ok w hw) rfl (hB.2.2.2.2.2.2.2.2.2.2.1 w hw))) (by decide +kernel) hB.2.2.2.1 hB.2.2.2.2.1 va_S.rf (by rw [hml]; exact hl.1) dX1_needWithin_10 dX1_needWithin_13 dX1_needWithin_14 dX1_needWithin_16 dX1_needWithin_19 (fun x h => absurd (hno x h) (fun z => z)) (Nat.le_of_ble_eq_true rfl) (Nat.le_of_ble_eq_true rfl) (Nat.le_refl _) (Nat.le_refl _) hlocks (fun t _ h8 h9 => ⟨⟨rfl, by omega⟩, h8, h9⟩) (fun z h => by cases h) (Nat.le_refl _) (Nat.le_refl _)

abbrev ww_X1_needYearNumber : List Cond := .code yX1_needYearNumber cX1_needYearNumber 1 none :: gT
set_option maxHeartbeats 4000000 in
set_option maxRecDepth 100000 in
theorem c_X1_needYearNumber (l : Launch) (hst : l.stackTraces = false) (k : Nat → Nat) (H0 : Heap) (v0 : Int) (h0 : -2147483648 ≤ v0 ∧ v0 < 2147483648) : vx_Met l yX1_needYearNumber ww_X1_needYearNumber ({ frames := 9, cells := 1, slots := 6, locals := 322 }) (va_Pc [.int (iZ v0)] (fun U => U.heap = H0 ∧ kB k U)) (kQx (-999999999 ≤ v0 ∧ v0 ≤ 999999999) none H0) (kXC (fun E => E = "java/lang/IllegalArgumentException" ∧ ¬ (-999999999 ≤ v0 ∧ v0 ≤ 999999999))) 1 6 kN := by
  refine vx_ofW (cc := cX1_needYearNumber) (maxL := 1) (ret := none) (by decide) rfl ?_
  intro p e s m args below meth c s₁ B hml hno hv
  obtain ⟨rfl, hH, hB⟩ := hv
  subst hH
  have hx := B.exec
  have hb := B.bytes
  have hr := B.returns
  have hts := atoms_spec (ws := ww_X1_needYearNumber) B.pre
  have hown : s.vm.findClass RX1 = some m.cls := findClass_of_methodNamed B.named
  have hlocks := B.notSynchronized
  have hl := lv_entry ([.int (iZ v0)]) (n := 1) (Nat.le_of_ble_eq_true rfl)
  rw [lg_entry_eq]
  generalize (lg_sl ([.int (iZ v0)]) ++ List.replicate (1 - (lg_sl ([.int (iZ v0)])).length) Slot.unset).toArray = ls at hl ⊢
  have hl : lv_has ls 1 [(0, .int (iZ v0))] := hl
  refine lv_iload_n hx hb dX1_needYearNumber_0 rfl (lv_at hl 0 rfl) ?_
  refine lv_ldc (v := iZ (-999999999)) hx hb hown (hts _ (List.mem_cons_of_mem _ mw120)) dX1_needYearNumber_1 ?_
  refine lv_ldc (v := iZ 999999999) hx hb hown (hts _ (List.mem_cons_of_mem _ mw119)) dX1_needYearNumber_3 ?_
  refine kcxo (fun _ q => q) (vx_runS (As := [.int (iZ v0), .int (iZ ((-999999999))), .int (iZ 999999999)]) (rest := []) ⟨hx, hb, hml, hown, hts⟩ (c_X1_needWithin l hst k _ (v0) (((-999999999))) (999999999) (by omega) (by omega) (by omega)) (va_cwS 3 hts (kg_S mw228 mw229 mw42 rfl mw230) rfl rfl rfl hdS_X1_needWithin ⟨Nat.le_of_ble_eq_true rfl, Nat.le_of_ble_eq_true rfl⟩) ⟨fun a U g mk q => ⟨q.1, q.2.1, kB_call q.2.2⟩, fun U hU hW => ⟨rfl, hU, kB_same hB hU hW⟩⟩ rfl rfl hl.1 rfl (lv_room (Nat.le_of_ble_eq_true rfl)) dX1_needYearNumber_5 ⟨Nat.le_of_ble_eq_true rfl, Nat.le_of_ble_eq_true rfl⟩) hno hlocks (fun E h => ⟨h.1, by have := h.2; omega⟩) (Nat.le_of_ble_eq_true rfl) (Nat.le_of_ble_eq_true rfl) (fun g_1 => ?_)
  have g_1 : (((-999999999))) ≤ (v0) ∧ (v0) ≤ (999999999) := g_1
  refine vx_ret ?_
  refine W.widen (k := 1) (n := 6) (Nat.le_of_ble_eq_true rfl) (Nat.le_of_ble_eq_true rfl) ?_
  exact W.vret hx hb hr (fun t ht hW => ⟨rfl, ht, by omega⟩) (fun q h => by cases h) dX1_needYearNumber_8

abbrev ww_X1_needMonth : List Cond := .code yX1_needMonth cX1_needMonth 1 none :: gT
set_option maxHeartbeats 4000000 in
set_option maxRecDepth 100000 in
theorem c_X1_needMonth (l : Launch) (hst : l.stackTraces = false) (k : Nat → Nat) (H0 : Heap) (v0 : Int) (h0 : -2147483648 ≤ v0 ∧ v0 < 2147483648) : vx_Met l yX1_needMonth ww_X1_needMonth ({ frames := 9, cells := 1, slots := 6, locals := 322 }) (va_Pc [.int (iZ v0)] (fun U => U.heap = H0 ∧ kB k U)) (kQx (1 ≤ v0 ∧ v0 ≤ 12) none H0) (kXC (fun E => E = "java/lang/IllegalArgumentException" ∧ ¬ (1 ≤ v0 ∧ v0 ≤ 12))) 1 6 kN := by
  refine vx_ofW (cc := cX1_needMonth) (maxL := 1) (ret := none) (by decide) rfl ?_
  intro p e s m args below meth c s₁ B hml hno hv
  obtain ⟨rfl, hH, hB⟩ := hv
  subst hH
  have hx := B.exec
  have hb := B.bytes
  have hr := B.returns
  have hts := atoms_spec (ws := ww_X1_needMonth) B.pre
  have hown : s.vm.findClass RX1 = some m.cls := findClass_of_methodNamed B.named
  have hlocks := B.notSynchronized
  have hl := lv_entry ([.int (iZ v0)]) (n := 1) (Nat.le_of_ble_eq_true rfl)
  rw [lg_entry_eq]
  generalize (lg_sl ([.int (iZ v0)]) ++ List.replicate (1 - (lg_sl ([.int (iZ v0)])).length) Slot.unset).toArray = ls at hl ⊢
  have hl : lv_has ls 1 [(0, .int (iZ v0))] := hl
  refine lv_iload_n hx hb dX1_needMonth_0 rfl (lv_at hl 0 rfl) ?_
  refine lv_iconst (v := iZ 1) hx hb dX1_needMonth_1 rfl ?_
  refine lv_bipush (v := iZ 12) hx hb dX1_needMonth_2 rfl ?_
  refine kcxo (fun _ q => q) (vx_runS (As := [.int (iZ v0), .int (iZ 1), .int (iZ 12)]) (rest := []) ⟨hx, hb, hml, hown, hts⟩ (c_X1_needWithin l hst k _ (v0) (1) (12) (by omega) (by omega) (by omega)) (va_cwS 3 hts (kg_S mw228 mw229 mw42 rfl mw230) rfl rfl rfl hdS_X1_needWithin ⟨Nat.le_of_ble_eq_true rfl, Nat.le_of_ble_eq_true rfl⟩) ⟨fun a U g mk q => ⟨q.1, q.2.1, kB_call q.2.2⟩, fun U hU hW => ⟨rfl, hU, kB_same hB hU hW⟩⟩ rfl rfl hl.1 rfl (lv_room (Nat.le_of_ble_eq_true rfl)) dX1_needMonth_4 ⟨Nat.le_of_ble_eq_true rfl, Nat.le_of_ble_eq_true rfl⟩) hno hlocks (fun E h => ⟨h.1, by have := h.2; omega⟩) (Nat.le_of_ble_eq_true rfl) (Nat.le_of_ble_eq_true rfl) (fun g_1 => ?_)
  have g_1 : (1) ≤ (v0) ∧ (v0) ≤ (12) := g_1
  refine vx_ret ?_
  refine W.widen (k := 1) (n := 6) (Nat.le_of_ble_eq_true rfl) (Nat.le_of_ble_eq_true rfl) ?_
  exact W.vret hx hb hr (fun t ht hW => ⟨rfl, ht, by omega⟩) (fun q h => by cases h) dX1_needMonth_7

abbrev ww_X1_needDayOfMonth : List Cond := .code yX1_needDayOfMonth cX1_needDayOfMonth 1 none :: gT
set_option maxHeartbeats 4000000 in
set_option maxRecDepth 100000 in
theorem c_X1_needDayOfMonth (l : Launch) (hst : l.stackTraces = false) (k : Nat → Nat) (H0 : Heap) (v0 : Int) (h0 : -2147483648 ≤ v0 ∧ v0 < 2147483648) : vx_Met l yX1_needDayOfMonth ww_X1_needDayOfMonth ({ frames := 9, cells := 1, slots := 6, locals := 322 }) (va_Pc [.int (iZ v0)] (fun U => U.heap = H0 ∧ kB k U)) (kQx (1 ≤ v0 ∧ v0 ≤ 31) none H0) (kXC (fun E => E = "java/lang/IllegalArgumentException" ∧ ¬ (1 ≤ v0 ∧ v0 ≤ 31))) 1 6 kN := by
  refine vx_ofW (cc := cX1_needDayOfMonth) (maxL := 1) (ret := none) (by decide) rfl ?_
  intro p e s m args below meth c s₁ B hml hno hv
  obtain ⟨rfl, hH, hB⟩ := hv
  subst hH
  have hx := B.exec
  have hb := B.bytes
  have hr := B.returns
  have hts := atoms_spec (ws := ww_X1_needDayOfMonth) B.pre
  have hown : s.vm.findClass RX1 = some m.cls := findClass_of_methodNamed B.named
  have hlocks := B.notSynchronized
  have hl := lv_entry ([.int (iZ v0)]) (n := 1) (Nat.le_of_ble_eq_true rfl)
  rw [lg_entry_eq]
  generalize (lg_sl ([.int (iZ v0)]) ++ List.replicate (1 - (lg_sl ([.int (iZ v0)])).length) Slot.unset).toArray = ls at hl ⊢
  have hl : lv_has ls 1 [(0, .int (iZ v0))] := hl
  refine lv_iload_n hx hb dX1_needDayOfMonth_0 rfl (lv_at hl 0 rfl) ?_
  refine lv_iconst (v := iZ 1) hx hb dX1_needDayOfMonth_1 rfl ?_
  refine lv_bipush (v := iZ 31) hx hb dX1_needDayOfMonth_2 rfl ?_
  refine kcxo (fun _ q => q) (vx_runS (As := [.int (iZ v0), .int (iZ 1), .int (iZ 31)]) (rest := []) ⟨hx, hb, hml, hown, hts⟩ (c_X1_needWithin l hst k _ (v0) (1) (31) (by omega) (by omega) (by omega)) (va_cwS 3 hts (kg_S mw228 mw229 mw42 rfl mw230) rfl rfl rfl hdS_X1_needWithin ⟨Nat.le_of_ble_eq_true rfl, Nat.le_of_ble_eq_true rfl⟩) ⟨fun a U g mk q => ⟨q.1, q.2.1, kB_call q.2.2⟩, fun U hU hW => ⟨rfl, hU, kB_same hB hU hW⟩⟩ rfl rfl hl.1 rfl (lv_room (Nat.le_of_ble_eq_true rfl)) dX1_needDayOfMonth_4 ⟨Nat.le_of_ble_eq_true rfl, Nat.le_of_ble_eq_true rfl⟩) hno hlocks (fun E h => ⟨h.1, by have := h.2; omega⟩) (Nat.le_of_ble_eq_true rfl) (Nat.le_of_ble_eq_true rfl) (fun g_1 => ?_)
  have g_1 : (1) ≤ (v0) ∧ (v0) ≤ (31) := g_1
  refine vx_ret ?_
  refine W.widen (k := 1) (n := 6) (Nat.le_of_ble_eq_true rfl) (Nat.le_of_ble_eq_true rfl) ?_
  exact W.vret hx hb hr (fun t ht hW => ⟨rfl, ht, by omega⟩) (fun q h => by cases h) dX1_needDayOfMonth_7

abbrev ww_X1_needYearThing : List Cond := .code yX1_needYearThing cX1_needYearThing 2 none :: gT
set_option maxHeartbeats 4000000 in
set_option maxRecDepth 100000 in
theorem c_X1_needYearThing (l : Launch) (hst : l.stackTraces = false) (k : Nat → Nat) (H0 : Heap) (th : Int) (v0 : Int) (h1 : -2147483648 ≤ th ∧ th < 2147483648) (h0 : -2147483648 ≤ v0 ∧ v0 < 2147483648) : vx_Met l yX1_needYearThing ww_X1_needYearThing ({ frames := 10, cells := 1, slots := 6, locals := 342 }) (va_Pc [.int (iZ th), .int (iZ v0)] (fun U => U.heap = H0 ∧ kB k U)) (kQx ((th = 0 → -999999999 ≤ v0 ∧ v0 ≤ 999999999) ∧ (th = 1 → 1 ≤ v0 ∧ v0 ≤ 999999999) ∧ (¬ th = 0 → ¬ th = 1 → 0 ≤ v0 ∧ v0 ≤ 1)) none H0) (kXC (fun E => E = "java/lang/IllegalArgumentException" ∧ ¬ ((th = 0 → -999999999 ≤ v0 ∧ v0 ≤ 999999999) ∧ (th = 1 → 1 ≤ v0 ∧ v0 ≤ 999999999) ∧ (¬ th = 0 → ¬ th = 1 → 0 ≤ v0 ∧ v0 ≤ 1)))) 1 6 kN := by
  refine vx_ofW (cc := cX1_needYearThing) (maxL := 2) (ret := none) (by decide) rfl ?_
  intro p e s m args below meth c s₁ B hml hno hv
  obtain ⟨rfl, hH, hB⟩ := hv
  subst hH
  have hx := B.exec
  have hb := B.bytes
  have hr := B.returns
  have hts := atoms_spec (ws := ww_X1_needYearThing) B.pre
  have hown : s.vm.findClass RX1 = some m.cls := findClass_of_methodNamed B.named
  have hlocks := B.notSynchronized
  have hl := lv_entry ([.int (iZ th), .int (iZ v0)]) (n := 2) (Nat.le_of_ble_eq_true rfl)
  rw [lg_entry_eq]
  generalize (lg_sl ([.int (iZ th), .int (iZ v0)]) ++ List.replicate (2 - (lg_sl ([.int (iZ th), .int (iZ v0)])).length) Slot.unset).toArray = ls at hl ⊢
  have hl : lv_has ls 2 [(0, .int (iZ th)), (1, .int (iZ v0))] := hl
  refine lv_iload_n hx hb dX1_needYearThing_0 rfl (lv_at hl 0 rfl) ?_
  by_cases c_1 : th = 0
  · refine lv_lookup (tgt := 28) (off := 27) hx hb dX1_needYearThing_1 (by decide) (by rw [iZ_toInt (z := th) (by omega), show th = 0 from by omega]; rfl) (by decide) ?_
    refine lv_iload_n hx hb dX1_needYearThing_28 rfl (lv_at hl 1 rfl) ?_
    refine kcxo (fun _ q => q) (vx_runS (As := [.int (iZ v0)]) (rest := []) ⟨hx, hb, hml, hown, hts⟩ (c_X1_needYearNumber l hst k _ (v0) (by omega)) (va_cwS 1 hts (kg_S mw610 mw611 mw42 rfl mw612) rfl rfl rfl hdS_X1_needYearNumber ⟨Nat.le_of_ble_eq_true rfl, Nat.le_of_ble_eq_true rfl⟩) ⟨fun a U g mk q => ⟨q.1, q.2.1, kB_call q.2.2⟩, fun U hU hW => ⟨rfl, hU, kB_same hB hU hW⟩⟩ rfl rfl hl.1 rfl (lv_room (Nat.le_of_ble_eq_true rfl)) dX1_needYearThing_29 ⟨Nat.le_of_ble_eq_true rfl, Nat.le_of_ble_eq_true rfl⟩) hno hlocks (fun E h => ⟨h.1, by have := h.2; omega⟩) (Nat.le_of_ble_eq_true rfl) (Nat.le_of_ble_eq_true rfl) (fun g_2 => ?_)
    have g_2 : -999999999 ≤ (v0) ∧ (v0) ≤ 999999999 := g_2
    refine lv_goto (tgt := 51) hx hb dX1_needYearThing_32 (by decide) ?_
    refine vx_ret ?_
    refine W.widen (k := 1) (n := 6) (Nat.le_of_ble_eq_true rfl) (Nat.le_of_ble_eq_true rfl) ?_
    exact W.vret hx hb hr (fun t ht hW => ⟨rfl, ht, by omega⟩) (fun q h => by cases h) dX1_needYearThing_51
  by_cases c_3 : th = 1
  · refine lv_lookup (tgt := 35) (off := 34) hx hb dX1_needYearThing_1 (by decide) (by rw [iZ_toInt (z := th) (by omega), show th = 1 from by omega]; rfl) (by decide) ?_
    refine lv_iload_n hx hb dX1_needYearThing_35 rfl (lv_at hl 1 rfl) ?_
    refine lv_iconst (v := iZ 1) hx hb dX1_needYearThing_36 rfl ?_
    refine lv_ldc (v := iZ 999999999) hx hb hown (hts _ (List.mem_cons_of_mem _ mw119)) dX1_needYearThing_37 ?_
    refine kcxo (fun _ q => q) (vx_runS (As := [.int (iZ v0), .int (iZ 1), .int (iZ 999999999)]) (rest := []) ⟨hx, hb, hml, hown, hts⟩ (c_X1_needWithin l hst k _ (v0) (1) (999999999) (by omega) (by omega) (by omega)) (va_cwS 3 hts (kg_S mw228 mw229 mw42 rfl mw230) rfl rfl rfl hdS_X1_needWithin ⟨Nat.le_of_ble_eq_true rfl, Nat.le_of_ble_eq_true rfl⟩) ⟨fun a U g mk q => ⟨q.1, q.2.1, kB_call q.2.2⟩, fun U hU hW => ⟨rfl, hU, kB_same hB hU hW⟩⟩ rfl rfl hl.1 rfl (lv_room (Nat.le_of_ble_eq_true rfl)) dX1_needYearThing_39 ⟨Nat.le_of_ble_eq_true rfl, Nat.le_of_ble_eq_true rfl⟩) hno hlocks (fun E h => ⟨h.1, by have := h.2; omega⟩) (Nat.le_of_ble_eq_true rfl) (Nat.le_of_ble_eq_true rfl) (fun g_4 => ?_)
    have g_4 : (1) ≤ (v0) ∧ (v0) ≤ (999999999) := g_4
    refine lv_goto (tgt := 51) hx hb dX1_needYearThing_42 (by decide) ?_
    refine vx_ret ?_
    refine W.widen (k := 1) (n := 6) (Nat.le_of_ble_eq_true rfl) (Nat.le_of_ble_eq_true rfl) ?_
    exact W.vret hx hb hr (fun t ht hW => ⟨rfl, ht, by omega⟩) (fun q h => by cases h) dX1_needYearThing_51
  refine lv_lookup (tgt := 45) (off := 44) hx hb dX1_needYearThing_1 (by decide) (by rw [iZ_toInt (z := th) (by omega)]; exact kz_look2 (by omega) (by omega)) (by decide) ?_
  refine lv_iload_n hx hb dX1_needYearThing_45 rfl (lv_at hl 1 rfl) ?_
  refine lv_iconst (v := iZ 0) hx hb dX1_needYearThing_46 rfl ?_
  refine lv_iconst (v := iZ 1) hx hb dX1_needYearThing_47 rfl ?_
  refine kcxo (fun _ q => q) (vx_runS (As := [.int (iZ v0), .int (iZ 0), .int (iZ 1)]) (rest := []) ⟨hx, hb, hml, hown, hts⟩ (c_X1_needWithin l hst k _ (v0) (0) (1) (by omega) (by omega) (by omega)) (va_cwS 3 hts (kg_S mw228 mw229 mw42 rfl mw230) rfl rfl rfl hdS_X1_needWithin ⟨Nat.le_of_ble_eq_true rfl, Nat.le_of_ble_eq_true rfl⟩) ⟨fun a U g mk q => ⟨q.1, q.2.1, kB_call q.2.2⟩, fun U hU hW => ⟨rfl, hU, kB_same hB hU hW⟩⟩ rfl rfl hl.1 rfl (lv_room (Nat.le_of_ble_eq_true rfl)) dX1_needYearThing_48 ⟨Nat.le_of_ble_eq_true rfl, Nat.le_of_ble_eq_true rfl⟩) hno hlocks (fun E h => ⟨h.1, by have := h.2; omega⟩) (Nat.le_of_ble_eq_true rfl) (Nat.le_of_ble_eq_true rfl) (fun g_5 => ?_)
  have g_5 : (0) ≤ (v0) ∧ (v0) ≤ (1) := g_5
  refine vx_ret ?_
  refine W.widen (k := 1) (n := 6) (Nat.le_of_ble_eq_true rfl) (Nat.le_of_ble_eq_true rfl) ?_
  exact W.vret hx hb hr (fun t ht hW => ⟨rfl, ht, by omega⟩) (fun q h => by cases h) dX1_needYearThing_51

