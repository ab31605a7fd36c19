def w32 (x : Int) : Int := (iZ x).toInt
theorem w32_iZ (x : Int) : iZ (w32 x) = iZ x := by unfold w32 iZ; exact Int32.ofInt_toInt _
theorem w32_rng (x : Int) : -2147483648 ≤ w32 x ∧ w32 x < 2147483648 := ⟨Int32.le_toInt _, Int32.toInt_lt _⟩
theorem w32_self {x : Int} (h : -2147483648 ≤ x ∧ x < 2147483648) : w32 x = x := iZ_toInt h
theorem ex2_no2 {A : Bool} : ¬ ex2 A false = 2 := by cases A <;> decide
/-- what the law's own methods need besides -/
def kL (U : State) : Prop := va_Nw (.fieldLinkNest RL 13 RX2 "n" "J" RL) U ∧ va_Nw (.fieldLinkNest RL 121 RX2 "s" "Ljava/lang/String;" RL) U ∧ va_Nw (.castable "java/lang/IndexOutOfBoundsException" "java/lang/IndexOutOfBoundsException") U ∧ va_Nw (.castable "java/lang/IllegalArgumentException" "java/lang/IllegalArgumentException") U
theorem kL_call {U : State} {g : JFrame} {mk : MethodId} {a : Array Value} (h : kL U) : kL (U.calling g mk a) := ⟨va_Nw.same (U := U.calling g mk a) rfl rfl h.1, va_Nw.same (U := U.calling g mk a) rfl rfl h.2.1, va_Nw.same (U := U.calling g mk a) rfl rfl h.2.2.1, va_Nw.same (U := U.calling g mk a) rfl rfl h.2.2.2⟩
theorem kL_warm {s U : State} (h : kL s) (hW : s.WarmedH U.vm) : kL U := ⟨va_Nw.warmF hW h.1, va_Nw.warmF hW h.2.1, va_Nw.warmC hW h.2.2.1, va_Nw.warmC hW h.2.2.2⟩
def kAO (q : Nat → Nat) (o sz : Nat) : Nat → Prop := fun a => kA q sz a ∨ a = o
theorem kAO_N {q k : Nat → Nat} {o : Nat} (hq : kQI q k) (ho : k 0 ≤ o) {sz : Nat} (hk : k 0 ≤ sz) : ∀ a, kAO q o sz a → k 0 ≤ a := fun a h => h.elim (kA_N hq hk a) (fun z => by rw [z]; exact ho)
theorem kDo1 {A : Nat → Prop} {o : Nat} {e : va_E} (h : A o) : va_D A [(o, e)] :=
  ⟨fun i j p q hi hj _ => by
    have h1 : i < 1 := (List.getElem?_eq_some_iff.mp hi).1
    have h2 : j < 1 := (List.getElem?_eq_some_iff.mp hj).1
    omega, fun i p hi => by
    match i, hi with
    | 0, hi => cases hi; exact h
    | n + 1, hi => cases hi⟩
theorem kXO_D {q k : Nat → Nat} (hq : kQI q k) {o : Nat} (ho : ∀ i : Nat, i < 9 → q i ≠ o) {dA : Nat → ClassId} {σ : Nat → Nat → Int} {tb : Nat → Int32} {tn tm : Int32} {sz : Nat} {e : va_E} : va_D (kAO q o sz) (kX q dA σ tb tn tm ++ [(o, e)]) :=
  va_D.app ((kX_D hq (sz := sz)).weaken (fun _ _ _ z => Or.inl z)) (kDo1 (Or.inr rfl)) (fun i j p p2 h1 h2 e9 => by
    obtain ⟨a1, a2⟩ := kX_at h1
    match j, h2 with
    | 0, h2 => cases h2; exact ho i a1 (by rw [← a2]; exact e9)
    | n + 1, h2 => cases h2)
theorem gX_kept {dC : Nat → ClassId} {dI : Nat → Nat → Nat} {dA : Nat → ClassId} {q : Nat → Nat} {σ : Nat → Nat → Int} {H H1 : Heap} (h : gX dC dI dA q σ H) (hk : ∀ i : Nat, i < 9 → q i < H.size → H1[q i]? = H[q i]?) : gX dC dI dA q σ H1 := by
  obtain ⟨tb, tn, tm, h1, h2, h3, hP⟩ := h
  exact ⟨tb, tn, tm, h1, h2, h3, hP.kept (fun i p hp => by
    obtain ⟨a1, a2⟩ := kX_at hp
    have h9 := (hP i p hp).lt
    rw [a2] at h9 ⊢
    exact hk i a1 h9)⟩
/-- the law's result cell o: n is what P says -/
def gO (dC : Nat → ClassId) (dI : Nat → Nat → Nat) (o : Nat) (P : Int → Prop) (H : Heap) : Prop := ∃ (n : Int) (v : Value), P n ∧ va_P (dC, dI) vwCl [(o, .inr (5, [.long (lZ n), v]))] H
theorem gO_kept {dC : Nat → ClassId} {dI : Nat → Nat → Nat} {o : Nat} {P : Int → Prop} {H H1 : Heap} (h : gO dC dI o P H) (hk : o < H.size → H1[o]? = H[o]?) : gO dC dI o P H1 := by
  obtain ⟨n, v, hp, hP⟩ := h
  exact ⟨n, v, hp, hP.kept (fun i p hp => by
    match i, hp with
    | 0, hp => cases hp; exact hk (hP 0 _ rfl).lt
    | n + 1, hp => cases hp)⟩
theorem gO_w {dC : Nat → ClassId} {dI : Nat → Nat → Nat} {o : Nat} {P P' : Int → Prop} {H : Heap} (h : gO dC dI o P H) (e : ∀ n, P n → P' n) : gO dC dI o P' H := by
  obtain ⟨n, v, hp, hP⟩ := h
  exact ⟨n, v, e n hp, hP⟩
theorem k_ofWH {l : Launch} {y : MethodName} {ws ws' : List Cond} {rm : Room} {Pc : Array Value → State → Prop} {Qc : Array Value → State → Outcome → State → Prop} {mc ms : Nat} {free : Addr → Prop} {cc : ByteArray} {maxL : Nat} {ret : Option FieldType} {hh : List (Nat × Nat × Nat × Nat)}
    (hy : plainName y.cls = true) (hw : ws = Cond.codeWith y cc maxL ret hh :: ws')
    (body : ∀ p e s m args below meth c s₁, BodyLoose p l y (headSpec ws rm) cc maxL ret e s m args below meth c s₁ → c.maxLocals = maxL → Pc args s →
      W p l e (headSpec ws rm).room s m args below meth c s.heap [] 0 0 (MQ below Qc args s mc ms free) (entryFrame m args maxL)) : Met l y ws rm Pc Qc mc ms free :=
  MetFree.mono (vx_ofWH (XC := fun _ _ _ => False) hy hw (fun p e s m args below meth c s₁ B hml hP => vx_ret (body p e s m args below meth c s₁ B hml hP))) (fun _ _ q => q) (fun _ _ _ _ _ q => q) (fun a s o t _ q => by
    rcases q with q | ⟨q9, -, hT⟩
    · exact q
    · obtain ⟨E, ce, L9, h1, -⟩ := hT
      exact h1.elim)
section
variable {p : Program} {l : Launch} {e : Env} {R : Room} {s : State} {m : MethodId} {args : Array Value} {below : List Frame} {meth : Method} {c : Code} {H : Heap} {locs : List Loc} {cells slots : Nat} {Q : State → Prop}
variable {cc : ByteArray} {pc : Nat} {ls : Array Slot} {rest : List Value}
theorem kcxc {a : Array Value} {st0 : List Value} {v : Option Value} {P : Prop} {C : Heap → Prop} {X : String → Prop} {A0 A1 : Nat → Prop} {H0 : Heap} {free : Addr → Prop} {mc ms : Nat} (hr : vx_Run p l e R s m args below meth c H locs cells slots mc ms (F0 m pc ls st0) rest (kQ2x P v C A1 a) (kXC X) free) (hS : va_S A0 H0 H locs) (hA : ∀ q, q < H.size → A1 q → A0 q) (hf : ∀ q, free q → A0 q)
    (kx : ∀ (E : String) (ce : Cell) (q9 : Addr) (H1 : Heap) (locs1 : List Loc), X E → H.size ≤ H1.size → (∀ q : Nat, q < H.size → H1[q]? = H[q]?) → va_S A0 H0 H1 locs1 → H1[q9]? = some ce → ce.vm = .none → s.vm.findClass E = some ce.cls → vx_W p l e R s m args below meth c H1 locs1 (cells + mc) (slots + ms) Q (F0 m pc ls rest) q9)
    (kk : ∀ (H1 : Heap) (locs1 : List Loc), C H1 → P → H.size ≤ H1.size → (∀ q : Nat, q < H.size → ¬ A1 q → H1[q]? = H[q]?) → va_S A0 H0 H1 locs1 → W p l e R s m args below meth c H1 locs1 (cells + mc) (slots + ms) Q (F0 m (pc + 3) ls (v.toList ++ rest))) : W p l e R s m args below meth c H locs cells slots Q (F0 m pc ls st0) := by
  intro T hT X9
  rcases hr T hT X9 with ⟨v1, st₀, t, T', L, h0, X', hL, e1, e2, ⟨⟨⟨hv, hc⟩, hz, hk⟩, hp⟩, st⟩ | ⟨q, st₀, t, T', L, E, ce, h0, X', hL, e1, e2, ⟨hx, hz, hk⟩, hce, hcv, hcl, st⟩
  · cases hv
    rw [h0] at hz hk
    obtain ⟨t2, a1, b1⟩ := kk T'.heap (locs ++ L) (by rw [e1]; exact hc) hp (by rw [e1]; exact hz) (fun q h1 h2 => by rw [e1]; exact hk q h1 h2)
      ⟨Nat.le_trans hS.1 (by rw [e1]; exact hz), fun q h1 h2 => by rw [e1, hk q (Nat.lt_of_lt_of_le h1 hS.1) (fun z => h2 (hA q (Nat.lt_of_lt_of_le h1 hS.1) z))]; exact hS.2.1 q h1 h2, fun q hq => by
        rcases List.mem_append.mp hq with h | h
        · exact hS.2.2 q h
        · exact hf _ (hL q h)⟩ T' rfl X'
    exact ⟨t2, st t2 a1, b1⟩
  · rw [h0] at hz hk
    obtain ⟨t2, a1, b1⟩ := kx E ce q T'.heap (locs ++ L) hx (by rw [e1]; exact hz) (fun q h1 => by rw [e1]; exact hk q h1)
      ⟨Nat.le_trans hS.1 (by rw [e1]; exact hz), fun q h1 h2 => by rw [e1, hk q (Nat.lt_of_lt_of_le h1 hS.1)]; exact hS.2.1 q h1 h2, fun q hq => by
        rcases List.mem_append.mp hq with h | h
        · exact hS.2.2 q h
        · exact hf _ (hL q h)⟩ (by rw [e1]; exact hce) hcv hcl T' rfl X'
    exact ⟨t2, st.trans a1, b1⟩
theorem kcxr {a : Array Value} {st0 : List Value} {P : Prop} {C : Nat → Heap → Prop} {X : String → Prop} {A0 A1 : Nat → Prop} {H0 : Heap} {free : Addr → Prop} {mc ms : Nat} (hr : vx_Run p l e R s m args below meth c H locs cells slots mc ms (F0 m pc ls st0) rest (kQ2xr P C A1 a) (kXC X) free) (hS : va_S A0 H0 H locs) (hA : ∀ q, q < H.size → A1 q → A0 q) (hf : ∀ q, free q → A0 q)
    (kx : ∀ (E : String) (ce : Cell) (q9 : Addr) (H1 : Heap) (locs1 : List Loc), X E → H.size ≤ H1.size → (∀ q : Nat, q < H.size → H1[q]? = H[q]?) → va_S A0 H0 H1 locs1 → H1[q9]? = some ce → ce.vm = .none → s.vm.findClass E = some ce.cls → vx_W p l e R s m args below meth c H1 locs1 (cells + mc) (slots + ms) Q (F0 m pc ls rest) q9)
    (kk : ∀ (x : Nat) (H1 : Heap) (locs1 : List Loc), C x H1 → P → H.size ≤ H1.size → (∀ q : Nat, q < H.size → ¬ A1 q → H1[q]? = H[q]?) → va_S A0 H0 H1 locs1 → W p l e R s m args below meth c H1 locs1 (cells + mc) (slots + ms) Q (F0 m (pc + 3) ls (.ref x :: rest))) : W p l e R s m args below meth c H locs cells slots Q (F0 m pc ls st0) := by
  intro T hT X9
  rcases hr T hT X9 with ⟨v1, st₀, t, T', L, h0, X', hL, e1, e2, ⟨⟨⟨x, hv, hc⟩, hz, hk⟩, hp⟩, st⟩ | ⟨q, st₀, t, T', L, E, ce, h0, X', hL, e1, e2, ⟨hx, hz, hk⟩, hce, hcv, hcl, st⟩
  · cases hv
    rw [h0] at hz hk
    obtain ⟨t2, a1, b1⟩ := kk x T'.heap (locs ++ L) (by rw [e1]; exact hc) hp (by rw [e1]; exact hz) (fun q h1 h2 => by rw [e1]; exact hk q h1 h2)
      ⟨Nat.le_trans hS.1 (by rw [e1]; exact hz), fun q h1 h2 => by rw [e1, hk q (Nat.lt_of_lt_of_le h1 hS.1) (fun z => h2 (hA q (Nat.lt_of_lt_of_le h1 hS.1) z))]; exact hS.2.1 q h1 h2, fun q hq => by
        rcases List.mem_append.mp hq with h | h
        · exact hS.2.2 q h
        · exact hf _ (hL q h)⟩ T' rfl X'
    exact ⟨t2, st t2 a1, b1⟩
  · rw [h0] at hz hk
    obtain ⟨t2, a1, b1⟩ := kx E ce q T'.heap (locs ++ L) hx (by rw [e1]; exact hz) (fun q h1 => by rw [e1]; exact hk q h1)
      ⟨Nat.le_trans hS.1 (by rw [e1]; exact hz), fun q h1 h2 => by rw [e1, hk q (Nat.lt_of_lt_of_le h1 hS.1)]; exact hS.2.1 q h1 h2, fun q hq => by
        rcases List.mem_append.mp hq with h | h
        · exact hS.2.2 q h
        · exact hf _ (hL q h)⟩ (by rw [e1]; exact hce) hcv hcl T' rfl X'
    exact ⟨t2, st.trans a1, b1⟩
theorem kz_w32 {x : Int} (kk : W p l e R s m args below meth c H locs cells slots Q (F0 m pc ls (.int (iZ (w32 x)) :: rest))) : W p l e R s m args below meth c H locs cells slots Q (F0 m pc ls (.int (iZ x) :: rest)) := by
  rw [w32_iZ] at kk; exact kk
theorem kz_b2l (hx : p.tables.exec = Jvm.exec) (hb : c.code = cc) {x : Bool} (d0 : decode cc pc = .ok (.ifCond .eq 7, 3)) (d1 : decode cc (pc + 3) = .ok (.lconst 1, 1)) (d2 : decode cc (pc + 4) = .ok (.goto 4, 3)) (d3 : decode cc (pc + 7) = .ok (.lconst 0, 1)) (kk : W p l e R s m args below meth c H locs cells slots Q (F0 m (pc + 8) ls (.long (lZ (bZ x)) :: rest))) : W p l e R s m args below meth c H locs cells slots Q (F0 m pc ls (.int (iZ (bZ x)) :: rest)) := by
  refine kz_ifb_eq (tgt := pc + 7) hx hb d0 (by omega) (fun h => ?_) (fun h => ?_)
  · subst h
    exact lv_lconst (v := lZ 0) hx hb d3 rfl kk
  · subst h
    exact lv_lconst (v := lZ 1) hx hb d1 rfl (lv_goto (tgt := pc + 8) hx hb d2 (by omega) kk)
theorem kz_b2i (hx : p.tables.exec = Jvm.exec) (hb : c.code = cc) {z : Int} (hz : -2147483648 ≤ z ∧ z < 2147483648) (d0 : decode cc pc = .ok (.ifCond .eq 7, 3)) (d1 : decode cc (pc + 3) = .ok (.iconst 1, 1)) (d2 : decode cc (pc + 4) = .ok (.goto 4, 3)) (d3 : decode cc (pc + 7) = .ok (.iconst 0, 1)) (kk : W p l e R s m args below meth c H locs cells slots Q (F0 m (pc + 8) ls (.int (iZ (bZ (!decide (z = 0)))) :: rest))) : W p l e R s m args below meth c H locs cells slots Q (F0 m pc ls (.int (iZ z) :: rest)) := by
  refine kz_if_eq (tgt := pc + 7) hx hb hz d0 (by omega) (fun h => ?_) (fun h => ?_)
  · rw [decide_eq_true h] at kk
    exact lv_iconst (v := iZ 0) hx hb d3 rfl kk
  · rw [decide_eq_false h] at kk
    exact lv_iconst (v := iZ 1) hx hb d1 rfl (lv_goto (tgt := pc + 8) hx hb d2 (by omega) kk)
end
theorem gX_ltT {dC : Nat → ClassId} {dI : Nat → Nat → Nat} {dA : Nat → ClassId} {q : Nat → Nat} {σ : Nat → Nat → Int} {H : Heap} (h : gX dC dI dA q σ H) : ∀ i : Nat, i < 9 → q i < H.size := fun i hi => by
  obtain ⟨tb, tn, tm, -, -, -, hP⟩ := h
  have hl : (kX q dA σ tb (nI tn) tm)[i]? = some ((kX q dA σ tb (nI tn) tm)[i]'hi) := List.getElem?_eq_getElem hi
  obtain ⟨-, a2⟩ := kX_at hl
  have h1 := (hP i _ hl).lt
  rw [a2] at h1
  exact h1
theorem kS_D {A : Nat → Prop} {x w : Nat} {dA : Nat → ClassId} {g : Nat → Int} {n : Nat} (hx : A x) (hw : A w) (h : x ≠ w) : va_D A (kS x w dA g n) :=
  ⟨fun i j p q hi hj e => by
    have h1 : i < 2 := (List.getElem?_eq_some_iff.mp hi).1
    have h2 : j < 2 := (List.getElem?_eq_some_iff.mp hj).1
    match i, j, h1, h2 with
    | 0, 0, _, _ => rfl
    | 1, 1, _, _ => rfl
    | 0, 1, _, _ => cases hi; cases hj; exact absurd e h
    | 1, 0, _, _ => cases hi; cases hj; exact absurd e.symm h, fun i p hi => by
    have h1 : i < 2 := (List.getElem?_eq_some_iff.mp hi).1
    match i, h1 with
    | 0, _ => cases hi; exact hx
    | 1, _ => cases hi; exact hw⟩
theorem kXOS_D {q k : Nat → Nat} (hq : kQI q k) {o : Nat} (ho : ∀ i : Nat, i < 9 → q i ≠ o) {sz x w : Nat} (hql : ∀ i : Nat, i < 9 → q i < sz) (hol : o < sz) (hx : sz ≤ x) (hw : sz ≤ w) (hxw : x ≠ w) {dA : Nat → ClassId} {σ : Nat → Nat → Int} {tb : Nat → Int32} {tn tm : Int32} {e : va_E} {g : Nat → Int} {n : Nat} : va_D (kAO q o sz) (kX q dA σ tb tn tm ++ [(o, e)] ++ kS x w dA g n) :=
  va_D.app (kXO_D hq ho) (kS_D (Or.inl (Or.inr hx)) (Or.inl (Or.inr hw)) hxw) (fun i j p p2 h1 h2 e9 => by
    have hp : p.1 < sz := by
      by_cases hi : i < 9
      · rw [List.getElem?_append_left (show i < (kX q dA σ tb tn tm).length from hi)] at h1
        obtain ⟨a1, a2⟩ := kX_at h1
        rw [a2]; exact hql i a1
      · rw [List.getElem?_append_right (show (kX q dA σ tb tn tm).length ≤ i from Nat.le_of_not_lt hi)] at h1
        generalize i - (kX q dA σ tb tn tm).length = i' at h1
        match i', h1 with
        | 0, h1 => cases h1; exact hol
        | n + 1, h1 => cases h1
    have h3 : j < 2 := (List.getElem?_eq_some_iff.mp h2).1
    match j, h3 with
    | 0, _ => cases h2; exact absurd hp (by rw [e9]; exact Nat.not_lt.mpr hx)
    | 1, _ => cases h2; exact absurd hp (by rw [e9]; exact Nat.not_lt.mpr hw))
/-- the law's result cell o: where P, its text is a new one of the number z -/
def gOS (dC : Nat → ClassId) (dI : Nat → Nat → Nat) (dA : Nat → ClassId) (o sz : Nat) (P : Prop) (z : Int) (H : Heap) : Prop := ∃ (n : Int) (v : Value), va_P (dC, dI) vwCl [(o, .inr (5, [.long (lZ n), v]))] H ∧ (P → ∃ x : Nat, v = .ref x ∧ kTS dC dI dA sz z x H)
theorem gOS_O {dC : Nat → ClassId} {dI : Nat → Nat → Nat} {dA : Nat → ClassId} {o sz : Nat} {P : Prop} {z : Int} {H : Heap} (h : gOS dC dI dA o sz P z H) : gO dC dI o (fun _ => True) H := by
  obtain ⟨n, v, hP, -⟩ := h
  exact ⟨n, v, trivial, hP⟩
