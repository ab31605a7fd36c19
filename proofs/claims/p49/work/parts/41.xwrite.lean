/-! writes: the state with one number changed; the region that a call of the class may write -/
def sU (σ : Nat → Nat → Int) (k j : Nat) (v : Int) : Nat → Nat → Int := fun k' j' => if k' = k ∧ j' = j then v else σ k' j'
theorem sU_s {σ : Nat → Nat → Int} {k j : Nat} {v : Int} : sU σ k j v k j = v := if_pos ⟨rfl, rfl⟩
theorem sU_n {σ : Nat → Nat → Int} {k j k' j' : Nat} {v : Int} (h : ¬ (k' = k ∧ j' = j)) : sU σ k j v k' j' = σ k' j' := if_neg h
def kA (q : Nat → Nat) (sz : Nat) : Nat → Prop := fun a => (∃ i : Nat, i < 9 ∧ a = q i) ∨ sz ≤ a
def kQI (q k : Nat → Nat) : Prop := (∀ i j : Nat, i < 9 → j < 9 → q i = q j → i = j) ∧ ∀ i : Nat, i < 9 → k 0 ≤ q i
theorem kX_at {q : Nat → Nat} {dA : Nat → ClassId} {σ : Nat → Nat → Int} {tb : Nat → Int32} {tn tm : Int32} : ∀ {i : Nat} {p : Nat × va_E}, (kX q dA σ tb tn tm)[i]? = some p → i < 9 ∧ p.1 = q i
  | 0, _, h => by cases h; exact ⟨by decide, rfl⟩
  | 1, _, h => by cases h; exact ⟨by decide, rfl⟩
  | 2, _, h => by cases h; exact ⟨by decide, rfl⟩
  | 3, _, h => by cases h; exact ⟨by decide, rfl⟩
  | 4, _, h => by cases h; exact ⟨by decide, rfl⟩
  | 5, _, h => by cases h; exact ⟨by decide, rfl⟩
  | 6, _, h => by cases h; exact ⟨by decide, rfl⟩
  | 7, _, h => by cases h; exact ⟨by decide, rfl⟩
  | 8, _, h => by cases h; exact ⟨by decide, rfl⟩
  | n + 9, _, h => by cases h
theorem kX_D {q k : Nat → Nat} (hq : kQI q k) {dA : Nat → ClassId} {σ : Nat → Nat → Int} {tb : Nat → Int32} {tn tm : Int32} {sz : Nat} : va_D (kA q sz) (kX q dA σ tb tn tm) :=
  ⟨fun i j p p2 h1 h2 e => by
    obtain ⟨a1, a2⟩ := kX_at h1
    obtain ⟨b1, b2⟩ := kX_at h2
    exact hq.1 i j a1 b1 (by rw [← a2, ← b2, e]), fun i p h => by
    obtain ⟨a1, a2⟩ := kX_at h
    exact Or.inl ⟨i, a1, a2⟩⟩
theorem kA_N {q k : Nat → Nat} (hq : kQI q k) {sz : Nat} (hk : k 0 ≤ sz) : ∀ a, kA q sz a → k 0 ≤ a := fun a h => by
  rcases h with ⟨i, hi, rfl⟩ | h
  · exact hq.2 i hi
  · exact Nat.le_trans hk h
theorem kA_up {q : Nat → Nat} {sz sz' : Nat} (h : sz ≤ sz') : ∀ a, kA q sz' a → kA q sz a := fun a h9 => h9.elim Or.inl (fun z => Or.inr (Nat.le_trans h z))
/-- a callee that answers v, leaves a heap of which C holds, and writes in A alone -/
def kQ2 (v : Option Value) (C : Heap → Prop) (A : Nat → Prop) : Array Value → State → Outcome → State → Prop := fun _ st oc t => (oc = .returned v ∧ C t.heap) ∧ va_F A st t
theorem gX_cast {dC : Nat → ClassId} {dI : Nat → Nat → Nat} {dA : Nat → ClassId} {q : Nat → Nat} {σ σ' : Nat → Nat → Int} {H : Heap} (h : gX dC dI dA q σ H) (e : σ = σ') : gX dC dI dA q σ' H := e ▸ h
section
variable {p : Program} {l : Launch} {e : Env} {R : Room} {s : State} {m : MethodId} {args : Array Value} {below : List Frame} {meth : Method} {c : Code} {H : Heap} {locs : List Loc} {cells slots : Nat} {Q : State → Prop}
variable {cc : ByteArray} {pc : Nat} {ls : Array Slot} {rest : List Value}
theorem kc2 {a : Array Value} {st0 : List Value} {v : Option Value} {C : Heap → Prop} {A0 A1 : Nat → Prop} {H0 : Heap} {free : Addr → Prop} {mc ms : Nat} (hr : va_Run p l e R s m args below meth c H locs cells slots mc ms (F0 m pc ls st0) rest (kQ2 v C A1 a) free) (hS : va_S A0 H0 H locs) (hA : ∀ q, q < H.size → A1 q → A0 q) (hf : ∀ q, free q → A0 q)
    (kk : ∀ (H1 : Heap) (locs1 : List Loc), C H1 → H.size ≤ H1.size → (∀ q : Nat, q < H.size → ¬ A1 q → H1[q]? = H[q]?) → va_S A0 H0 H1 locs1 → W p l e R s m args below meth c H1 locs1 (cells + mc) (slots + ms) Q (F0 m (pc + 3) ls (v.toList ++ rest))) : W p l e R s m args below meth c H locs cells slots Q (F0 m pc ls st0) := by
  intro T hT X
  obtain ⟨v1, st₀, t, T', L, h0, X', hL, e1, e2, ⟨⟨hv, hc⟩, hz, hk⟩, st⟩ := hr T hT X
  cases hv
  rw [h0] at hz hk
  obtain ⟨t2, a1, b1⟩ := kk T'.heap (locs ++ L) (by rw [e1]; exact hc) (by rw [e1]; exact hz) (fun q h1 h2 => by rw [e1]; exact hk q h1 h2)
    ⟨Nat.le_trans hS.1 (by rw [e1]; exact hz), fun q h1 h2 => by rw [e1, hk q (Nat.lt_of_lt_of_le h1 hS.1) (fun z => h2 (hA q (Nat.lt_of_lt_of_le h1 hS.1) z))]; exact hS.2.1 q h1 h2, fun q hq => by
      rcases List.mem_append.mp hq with h | h
      · exact hS.2.2 q h
      · exact hf _ (hL q h)⟩ T' rfl X'
  exact ⟨t2, st t2 a1, b1⟩
theorem kxs_1 (hx : p.tables.exec = Jvm.exec) (hb : c.code = cc) {dC : Nat → ClassId} {dI : Nat → Nat → Nat} {dA : Nat → ClassId} {k q : Nat → Nat} (hq : kQI q k) {σ : Nat → Nat → Int} {tb : Nat → Int32} {tn tm : Int32} {sz : Nat} {H0 : Heap} (hK : va_K (dC, dI) vwCl (kT dA) s) (hP : va_P (dC, dI) vwCl (kX q dA σ tb tn tm) H) (hS : va_S (kA q sz) H0 H locs) {j : Nat} (hj : j < 4) {cn y1 m1 : Int} (hcn : cn = cnt y1 m1) (hdg : decode cc pc = .ok (.lastore, 1))
    (kk : ∀ (H1 : Heap) (locs1 : List Loc), va_P (dC, dI) vwCl (kX q dA (sU (sU σ 0 j y1) 1 j m1) tb tn tm) H1 → va_S (kA q sz) H0 H1 locs1 → W p l e R s m args below meth c H1 locs1 cells slots Q (F0 m (pc + 1) ls rest)) : W p l e R s m args below meth c H locs cells slots Q (F0 m pc ls (.long (lZ cn) :: .int (iZ (j : Int)) :: .ref (q 1) :: rest)) := by
  refine va_last hx hb hK hP (kX_D hq) hS 1 1 rfl rfl (iZ_idx (n := 4) (by omega) (by decide)) hdg (fun H1 locs1 hP1 hD1 hS1 => kk H1 locs1 ?_ hS1)
  have e : (kX q dA σ tb tn tm).set 1 (q 1, .inl (dA 1, 4, .inr (.inl (vp_updL (fun j => lZ (cnt (σ 0 j) (σ 1 j))) (iZ (j : Int)).toNatClampNeg (lZ cn))))) = kX q dA (sU (sU σ 0 j y1) 1 j m1) tb tn tm := by
    have e2 : (vp_updL (fun j => lZ (cnt (σ 0 j) (σ 1 j))) (iZ (j : Int)).toNatClampNeg (lZ cn)) = (fun i => lZ (cnt ((sU (sU σ 0 j y1) 1 j m1) 0 i) ((sU (sU σ 0 j y1) 1 j m1) 1 i))) := by
      funext i
      rw [iZ_cl ⟨by omega, by omega⟩]
      show (if i = j then _ else _) = _
      by_cases h : i = j
      · subst h
        rw [if_pos rfl]
        simp [sU, hcn]
      · rw [if_neg h]
        simp [sU, h]
    rw [e2]
    rfl
  rw [← e]
  exact hP1
theorem kxs_2 (hx : p.tables.exec = Jvm.exec) (hb : c.code = cc) {dC : Nat → ClassId} {dI : Nat → Nat → Nat} {dA : Nat → ClassId} {k q : Nat → Nat} (hq : kQI q k) {σ : Nat → Nat → Int} {tb : Nat → Int32} {tn tm : Int32} {sz : Nat} {H0 : Heap} (hK : va_K (dC, dI) vwCl (kT dA) s) (hP : va_P (dC, dI) vwCl (kX q dA σ tb tn tm) H) (hS : va_S (kA q sz) H0 H locs) {j : Nat} (hj : j < 4) {v1 : Int} (hdg : decode cc pc = .ok (.iastore, 1))
    (kk : ∀ (H1 : Heap) (locs1 : List Loc), va_P (dC, dI) vwCl (kX q dA (sU σ 2 j v1) tb tn tm) H1 → va_S (kA q sz) H0 H1 locs1 → W p l e R s m args below meth c H1 locs1 cells slots Q (F0 m (pc + 1) ls rest)) : W p l e R s m args below meth c H locs cells slots Q (F0 m pc ls (.int (iZ v1) :: .int (iZ (j : Int)) :: .ref (q 2) :: rest)) := by
  refine va_iast hx hb hK hP (kX_D hq) hS 2 0 rfl rfl (iZ_idx (n := 4) (by omega) (by decide)) hdg (fun H1 locs1 hP1 hD1 hS1 => kk H1 locs1 ?_ hS1)
  have e : (kX q dA σ tb tn tm).set 2 (q 2, .inl (dA 0, 4, .inl (upd (fun j => iZ (σ 2 j)) (iZ (j : Int)).toNatClampNeg (iZ v1)))) = kX q dA (sU σ 2 j v1) tb tn tm := by
    have e2 : (upd (fun j => iZ (σ 2 j)) (iZ (j : Int)).toNatClampNeg (iZ v1)) = (fun i => iZ ((sU σ 2 j v1) 2 i)) := by
      funext i
      rw [iZ_cl ⟨by omega, by omega⟩]
      show (if i = j then _ else _) = _
      by_cases h : i = j
      · subst h
        rw [if_pos rfl]
        simp [sU]
      · rw [if_neg h]
        simp [sU, h]
    rw [e2]
    rfl
  rw [← e]
  exact hP1
theorem kxs_3 (hx : p.tables.exec = Jvm.exec) (hb : c.code = cc) {dC : Nat → ClassId} {dI : Nat → Nat → Nat} {dA : Nat → ClassId} {k q : Nat → Nat} (hq : kQI q k) {σ : Nat → Nat → Int} {tb : Nat → Int32} {tn tm : Int32} {sz : Nat} {H0 : Heap} (hK : va_K (dC, dI) vwCl (kT dA) s) (hP : va_P (dC, dI) vwCl (kX q dA σ tb tn tm) H) (hS : va_S (kA q sz) H0 H locs) {j : Nat} (hj : j < 4) {v1 : Int} (hdg : decode cc pc = .ok (.iastore, 1))
    (kk : ∀ (H1 : Heap) (locs1 : List Loc), va_P (dC, dI) vwCl (kX q dA (sU σ 3 j v1) tb tn tm) H1 → va_S (kA q sz) H0 H1 locs1 → W p l e R s m args below meth c H1 locs1 cells slots Q (F0 m (pc + 1) ls rest)) : W p l e R s m args below meth c H locs cells slots Q (F0 m pc ls (.int (iZ v1) :: .int (iZ (j : Int)) :: .ref (q 3) :: rest)) := by
  refine va_iast hx hb hK hP (kX_D hq) hS 3 0 rfl rfl (iZ_idx (n := 4) (by omega) (by decide)) hdg (fun H1 locs1 hP1 hD1 hS1 => kk H1 locs1 ?_ hS1)
  have e : (kX q dA σ tb tn tm).set 3 (q 3, .inl (dA 0, 4, .inl (upd (fun j => iZ (σ 3 j)) (iZ (j : Int)).toNatClampNeg (iZ v1)))) = kX q dA (sU σ 3 j v1) tb tn tm := by
    have e2 : (upd (fun j => iZ (σ 3 j)) (iZ (j : Int)).toNatClampNeg (iZ v1)) = (fun i => iZ ((sU σ 3 j v1) 3 i)) := by
      funext i
      rw [iZ_cl ⟨by omega, by omega⟩]
      show (if i = j then _ else _) = _
      by_cases h : i = j
      · subst h
        rw [if_pos rfl]
        simp [sU]
      · rw [if_neg h]
        simp [sU, h]
    rw [e2]
    rfl
  rw [← e]
  exact hP1
theorem kxs_4 (hx : p.tables.exec = Jvm.exec) (hb : c.code = cc) {dC : Nat → ClassId} {dI : Nat → Nat → Nat} {dA : Nat → ClassId} {k q : Nat → Nat} (hq : kQI q k) {σ : Nat → Nat → Int} {tb : Nat → Int32} {tn tm : Int32} {sz : Nat} {H0 : Heap} (hK : va_K (dC, dI) vwCl (kT dA) s) (hP : va_P (dC, dI) vwCl (kX q dA σ tb tn tm) H) (hS : va_S (kA q sz) H0 H locs) {j : Nat} (hj : j < 4) {v1 : Int} (hdg : decode cc pc = .ok (.iastore, 1))
    (kk : ∀ (H1 : Heap) (locs1 : List Loc), va_P (dC, dI) vwCl (kX q dA (sU σ 4 j v1) tb tn tm) H1 → va_S (kA q sz) H0 H1 locs1 → W p l e R s m args below meth c H1 locs1 cells slots Q (F0 m (pc + 1) ls rest)) : W p l e R s m args below meth c H locs cells slots Q (F0 m pc ls (.int (iZ v1) :: .int (iZ (j : Int)) :: .ref (q 4) :: rest)) := by
  refine va_iast hx hb hK hP (kX_D hq) hS 4 0 rfl rfl (iZ_idx (n := 4) (by omega) (by decide)) hdg (fun H1 locs1 hP1 hD1 hS1 => kk H1 locs1 ?_ hS1)
  have e : (kX q dA σ tb tn tm).set 4 (q 4, .inl (dA 0, 4, .inl (upd (fun j => iZ (σ 4 j)) (iZ (j : Int)).toNatClampNeg (iZ v1)))) = kX q dA (sU σ 4 j v1) tb tn tm := by
    have e2 : (upd (fun j => iZ (σ 4 j)) (iZ (j : Int)).toNatClampNeg (iZ v1)) = (fun i => iZ ((sU σ 4 j v1) 4 i)) := by
      funext i
      rw [iZ_cl ⟨by omega, by omega⟩]
      show (if i = j then _ else _) = _
      by_cases h : i = j
      · subst h
        rw [if_pos rfl]
        simp [sU]
      · rw [if_neg h]
        simp [sU, h]
    rw [e2]
    rfl
  rw [← e]
  exact hP1
theorem kxs_6 (hx : p.tables.exec = Jvm.exec) (hb : c.code = cc) {dC : Nat → ClassId} {dI : Nat → Nat → Nat} {dA : Nat → ClassId} {k q : Nat → Nat} (hq : kQI q k) {σ : Nat → Nat → Int} {tb : Nat → Int32} {tn tm : Int32} {sz : Nat} {H0 : Heap} (hK : va_K (dC, dI) vwCl (kT dA) s) (hP : va_P (dC, dI) vwCl (kX q dA σ tb tn tm) H) (hS : va_S (kA q sz) H0 H locs) {j : Nat} (hj : j < 4) {v1 : Int} (hdg : decode cc pc = .ok (.iastore, 1))
    (kk : ∀ (H1 : Heap) (locs1 : List Loc), va_P (dC, dI) vwCl (kX q dA (sU σ 7 j v1) tb tn tm) H1 → va_S (kA q sz) H0 H1 locs1 → W p l e R s m args below meth c H1 locs1 cells slots Q (F0 m (pc + 1) ls rest)) : W p l e R s m args below meth c H locs cells slots Q (F0 m pc ls (.int (iZ v1) :: .int (iZ (j : Int)) :: .ref (q 6) :: rest)) := by
  refine va_iast hx hb hK hP (kX_D hq) hS 6 0 rfl rfl (iZ_idx (n := 4) (by omega) (by decide)) hdg (fun H1 locs1 hP1 hD1 hS1 => kk H1 locs1 ?_ hS1)
  have e : (kX q dA σ tb tn tm).set 6 (q 6, .inl (dA 0, 4, .inl (upd (fun j => iZ (σ 7 j)) (iZ (j : Int)).toNatClampNeg (iZ v1)))) = kX q dA (sU σ 7 j v1) tb tn tm := by
    have e2 : (upd (fun j => iZ (σ 7 j)) (iZ (j : Int)).toNatClampNeg (iZ v1)) = (fun i => iZ ((sU σ 7 j v1) 7 i)) := by
      funext i
      rw [iZ_cl ⟨by omega, by omega⟩]
      show (if i = j then _ else _) = _
      by_cases h : i = j
      · subst h
        rw [if_pos rfl]
        simp [sU]
      · rw [if_neg h]
        simp [sU, h]
    rw [e2]
    rfl
  rw [← e]
  exact hP1
theorem kxs_5 (hx : p.tables.exec = Jvm.exec) (hb : c.code = cc) {dC : Nat → ClassId} {dI : Nat → Nat → Nat} {dA : Nat → ClassId} {k q : Nat → Nat} (hq : kQI q k) {σ : Nat → Nat → Int} {tb : Nat → Int32} {tn tm : Int32} {sz : Nat} {H0 : Heap} (hK : va_K (dC, dI) vwCl (kT dA) s) (hP : va_P (dC, dI) vwCl (kX q dA σ tb tn tm) H) (hS : va_S (kA q sz) H0 H locs) {j : Nat} (hj : j < 4) {cn y1 m1 : Int} (hcn : cn = cnt y1 m1) (hdg : decode cc pc = .ok (.lastore, 1))
    (kk : ∀ (H1 : Heap) (locs1 : List Loc), va_P (dC, dI) vwCl (kX q dA (sU (sU σ 5 j y1) 6 j m1) tb tn tm) H1 → va_S (kA q sz) H0 H1 locs1 → W p l e R s m args below meth c H1 locs1 cells slots Q (F0 m (pc + 1) ls rest)) : W p l e R s m args below meth c H locs cells slots Q (F0 m pc ls (.long (lZ cn) :: .int (iZ (j : Int)) :: .ref (q 5) :: rest)) := by
  refine va_last hx hb hK hP (kX_D hq) hS 5 1 rfl rfl (iZ_idx (n := 4) (by omega) (by decide)) hdg (fun H1 locs1 hP1 hD1 hS1 => kk H1 locs1 ?_ hS1)
  have e : (kX q dA σ tb tn tm).set 5 (q 5, .inl (dA 1, 4, .inr (.inl (vp_updL (fun j => lZ (cnt (σ 5 j) (σ 6 j))) (iZ (j : Int)).toNatClampNeg (lZ cn))))) = kX q dA (sU (sU σ 5 j y1) 6 j m1) tb tn tm := by
    have e2 : (vp_updL (fun j => lZ (cnt (σ 5 j) (σ 6 j))) (iZ (j : Int)).toNatClampNeg (lZ cn)) = (fun i => lZ (cnt ((sU (sU σ 5 j y1) 6 j m1) 5 i) ((sU (sU σ 5 j y1) 6 j m1) 6 i))) := by
      funext i
      rw [iZ_cl ⟨by omega, by omega⟩]
      show (if i = j then _ else _) = _
      by_cases h : i = j
      · subst h
        rw [if_pos rfl]
        simp [sU, hcn]
      · rw [if_neg h]
        simp [sU, h]
    rw [e2]
    rfl
  rw [← e]
  exact hP1
end
def putLr (cn : Int) : Int := if inb cn (-11999999988) 11999999999 = true then lenOf cn else -9
def putLs (σ : Nat → Nat → Int) (j : Nat) (cn : Int) : Nat → Nat → Int := if inb cn (-11999999988) 11999999999 = true then sU (sU σ 0 j (yearOf cn)) 1 j (monOf cn) else σ
theorem cnt_of (cn : Int) : cn = cnt (yearOf cn) (monOf cn) := by unfold cnt yearOf monOf; omega
abbrev ww_X1_putLeaf : List Cond := .code yX1_putLeaf cX1_putLeaf 4 (some .int) :: gT
set_option maxHeartbeats 4000000 in
set_option maxRecDepth 100000 in
theorem c_X1_putLeaf (l : Launch) (dC : Nat → ClassId) (dI : Nat → Nat → Nat) (dA : Nat → ClassId) (k : Nat → Nat) (q : Nat → Nat) (σ : Nat → Nat → Int) (H0 : Heap) (hG : gX dC dI dA q σ H0) (hOK : kOK σ) (hq : kQI q k) (pj : Nat) (cn : Int) (hpj : pj < 4) (h0 : -9223372036854775808 ≤ cn ∧ cn < 9223372036854775808) : Met l yX1_putLeaf ww_X1_putLeaf ({ frames := 3, cells := 0, slots := 0, locals := 67 }) (va_Pc [.ref (q 0), .int (iZ ((pj : Nat) : Int)), .long (lZ (cn))] (fun U => U.heap = H0 ∧ kM dC dI dA k U)) (kQ2 (some (.int (iZ (putLr cn)))) (gX dC dI dA q (putLs σ pj cn)) (kA q H0.size)) 0 0 (kA q H0.size) := by
  refine Met.ofW (cc := cX1_putLeaf) (maxL := 4) (ret := (some .int)) (by decide) rfl ?_
  intro p e s m args below meth c s₁ B hml hv
  obtain ⟨rfl, hH, hM⟩ := hv
  subst hH
  obtain ⟨tb, tn, tm, htn, hfit, htm, hP⟩ := hG
  have hS : va_S (kA q s.heap.size) s.heap s.heap [] := va_S.rf
  have o_pj := kOKr hOK hpj
  have hx := B.exec
  have hb := B.bytes
  have hr := B.returns
  have hts := atoms_spec (ws := ww_X1_putLeaf) B.pre
  have hown : s.vm.findClass RX1 = some m.cls := findClass_of_methodNamed B.named
  have hlocks := B.notSynchronized
  have hl := lv_entry ([.ref (q 0), .int (iZ ((pj : Nat) : Int)), .long (lZ (cn))]) (n := 4) (Nat.le_of_ble_eq_true rfl)
  rw [lg_entry_eq]
  generalize (lg_sl ([.ref (q 0), .int (iZ ((pj : Nat) : Int)), .long (lZ (cn))]) ++ List.replicate (4 - (lg_sl ([.ref (q 0), .int (iZ ((pj : Nat) : Int)), .long (lZ (cn))])).length) Slot.unset).toArray = ls at hl ⊢
  have hl : lv_has ls 4 [(0, .ref (q 0)), (1, .int (iZ ((pj : Nat) : Int))), (2, .long (lZ (cn)))] := hl
  refine lv_lload_n hx hb dX1_putLeaf_0 rfl (lv_at hl 2 rfl) ?_
  refine lv_ldc2 (v := lZ (-11999999988)) hx hb hown (hts _ (List.mem_cons_of_mem _ mw619)) dX1_putLeaf_1 ?_
  refine kz_lcmp_lt (tgt := 16) hx hb (by omega) (by omega) dX1_putLeaf_4 dX1_putLeaf_5 (by decide) (fun c_1 => ?_) (fun c_1 => ?_)
  · refine lv_bipush (v := iZ (-9)) hx hb dX1_putLeaf_16 rfl ?_
    exact W.iret (v := iZ ((-9))) hx hb hr (fun t ht hW => ⟨⟨congrArg (fun z : Int => Outcome.returned (some (Value.int (iZ z)))) (show ((-9)) = (putLr cn) from by unfold putLr; rw [show inb cn (-11999999988) 11999999999 = false from decide_eq_false (by omega)]; rfl), gX_cast ⟨tb, tn, tm, htn, hfit, htm, by rw [ht]; exact hP⟩ (show (σ) = (putLs σ pj cn) from by unfold putLs; rw [show inb cn (-11999999988) 11999999999 = false from decide_eq_false (by omega)]; rfl)⟩, hS.F ht⟩) hS.2.2 dX1_putLeaf_18
  · refine lv_lload_n hx hb dX1_putLeaf_8 rfl (lv_at hl 2 rfl) ?_
    refine lv_ldc2 (v := lZ 11999999999) hx hb hown (hts _ (List.mem_cons_of_mem _ mw161)) dX1_putLeaf_9 ?_
    refine kz_lcmp_le (tgt := 19) hx hb (by omega) (by omega) dX1_putLeaf_12 dX1_putLeaf_13 (by decide) (fun c_2 => ?_) (fun c_2 => ?_)
    · refine lv_aload_n hx hb dX1_putLeaf_19 rfl (lv_at hl 0 rfl) ?_
      refine va_get (D := (dC, dI)) (ci := 4) (v := .ref (q 1)) (C := RX1) (T := TX1) (N := 8) hx hb hts (fun w h => List.mem_cons_of_mem _ (gF_0_in h)) hown hM.1 hP 0 rfl rfl 0 (by decide) (hts _ (List.mem_cons_of_mem _ mw97)) (fun _ h9 => h9) rfl dX1_putLeaf_20 ?_
      refine lv_iload_n hx hb dX1_putLeaf_23 rfl (lv_at hl 1 rfl) ?_
      refine lv_lload_n hx hb dX1_putLeaf_24 rfl (lv_at hl 2 rfl) ?_
      refine kxs_1 hx hb hq hM.1 hP hS hpj (y1 := yearOf cn) (m1 := monOf cn) (cnt_of cn) dX1_putLeaf_25 (fun H locs hP hS => ?_)
      refine lv_lload_n hx hb dX1_putLeaf_26 rfl (lv_at hl 2 rfl) ?_
      refine kc0 (fun _ q => q) (va_runS (As := [.long (lZ (cn))]) (rest := []) ⟨hx, hb, hml, hown, hts⟩ (c_X0_lengthOf l _ (cn) (by omega)) (va_cwS 1 hts (kg_S mw132 mw133 mw51 rfl mw134) rfl rfl rfl hdS_X0_lengthOf ⟨Nat.le_of_ble_eq_true rfl, Nat.le_of_ble_eq_true rfl⟩) ⟨fun a U g mk q => q, fun U hU hW => ⟨rfl, hU⟩⟩ rfl rfl hl.1 rfl (lv_room (Nat.le_of_ble_eq_true rfl)) dX1_putLeaf_27 ⟨Nat.le_of_ble_eq_true rfl, Nat.le_of_ble_eq_true rfl⟩) ?_
      exact W.iret (v := iZ (lenOf ((cn)))) hx hb hr (fun t ht hW => ⟨⟨congrArg (fun z : Int => Outcome.returned (some (Value.int (iZ z)))) (show (lenOf ((cn))) = (putLr cn) from by unfold putLr; rw [show inb cn (-11999999988) 11999999999 = true from decide_eq_true (by omega)]; rfl), gX_cast ⟨tb, tn, tm, htn, hfit, htm, by rw [ht]; exact hP⟩ (show (sU (sU (σ) 0 pj (yearOf cn)) 1 pj (monOf cn)) = (putLs σ pj cn) from by unfold putLs; rw [show inb cn (-11999999988) 11999999999 = true from decide_eq_true (by omega)]; rfl)⟩, hS.F ht⟩) hS.2.2 dX1_putLeaf_30
    · refine lv_bipush (v := iZ (-9)) hx hb dX1_putLeaf_16 rfl ?_
      exact W.iret (v := iZ ((-9))) hx hb hr (fun t ht hW => ⟨⟨congrArg (fun z : Int => Outcome.returned (some (Value.int (iZ z)))) (show ((-9)) = (putLr cn) from by unfold putLr; rw [show inb cn (-11999999988) 11999999999 = false from decide_eq_false (by omega)]; rfl), gX_cast ⟨tb, tn, tm, htn, hfit, htm, by rw [ht]; exact hP⟩ (show (σ) = (putLs σ pj cn) from by unfold putLs; rw [show inb cn (-11999999988) 11999999999 = false from decide_eq_false (by omega)]; rfl)⟩, hS.F ht⟩) hS.2.2 dX1_putLeaf_18

def putYr (y : Int) : Int := if inb y (-999999999) 999999999 = true then ylen y else -9
def putYs (σ : Nat → Nat → Int) (j : Nat) (y : Int) : Nat → Nat → Int := if inb y (-999999999) 999999999 = true then sU σ 2 j y else σ
abbrev ww_X1_putYear : List Cond := .code yX1_putYear cX1_putYear 4 (some .int) :: gT
set_option maxHeartbeats 4000000 in
set_option maxRecDepth 100000 in
theorem c_X1_putYear (l : Launch) (dC : Nat → ClassId) (dI : Nat → Nat → Nat) (dA : Nat → ClassId) (k : Nat → Nat) (q : Nat → Nat) (σ : Nat → Nat → Int) (H0 : Heap) (hG : gX dC dI dA q σ H0) (hOK : kOK σ) (hq : kQI q k) (pj : Nat) (yy : Int) (hpj : pj < 4) (h0 : -9223372036854775808 ≤ yy ∧ yy < 9223372036854775808) : Met l yX1_putYear ww_X1_putYear ({ frames := 2, cells := 0, slots := 0, locals := 42 }) (va_Pc [.ref (q 0), .int (iZ ((pj : Nat) : Int)), .long (lZ (yy))] (fun U => U.heap = H0 ∧ kM dC dI dA k U)) (kQ2 (some (.int (iZ (putYr yy)))) (gX dC dI dA q (putYs σ pj yy)) (kA q H0.size)) 0 0 (kA q H0.size) := by
  refine Met.ofW (cc := cX1_putYear) (maxL := 4) (ret := (some .int)) (by decide) rfl ?_
  intro p e s m args below meth c s₁ B hml hv
  obtain ⟨rfl, hH, hM⟩ := hv
  subst hH
  obtain ⟨tb, tn, tm, htn, hfit, htm, hP⟩ := hG
  have hS : va_S (kA q s.heap.size) s.heap s.heap [] := va_S.rf
  have o_pj := kOKr hOK hpj
  have hx := B.exec
  have hb := B.bytes
  have hr := B.returns
  have hts := atoms_spec (ws := ww_X1_putYear) B.pre
  have hown : s.vm.findClass RX1 = some m.cls := findClass_of_methodNamed B.named
  have hlocks := B.notSynchronized
  have hl := lv_entry ([.ref (q 0), .int (iZ ((pj : Nat) : Int)), .long (lZ (yy))]) (n := 4) (Nat.le_of_ble_eq_true rfl)
  rw [lg_entry_eq]
  generalize (lg_sl ([.ref (q 0), .int (iZ ((pj : Nat) : Int)), .long (lZ (yy))]) ++ List.replicate (4 - (lg_sl ([.ref (q 0), .int (iZ ((pj : Nat) : Int)), .long (lZ (yy))])).length) Slot.unset).toArray = ls at hl ⊢
  have hl : lv_has ls 4 [(0, .ref (q 0)), (1, .int (iZ ((pj : Nat) : Int))), (2, .long (lZ (yy)))] := hl
  refine lv_lload_n hx hb dX1_putYear_0 rfl (lv_at hl 2 rfl) ?_
  refine lv_ldc2 (v := lZ (-999999999)) hx hb hown (hts _ (List.mem_cons_of_mem _ mw739)) dX1_putYear_1 ?_
  refine kz_lcmp_lt (tgt := 16) hx hb (by omega) (by omega) dX1_putYear_4 dX1_putYear_5 (by decide) (fun c_1 => ?_) (fun c_1 => ?_)
  · refine lv_bipush (v := iZ (-9)) hx hb dX1_putYear_16 rfl ?_
    exact W.iret (v := iZ ((-9))) hx hb hr (fun t ht hW => ⟨⟨congrArg (fun z : Int => Outcome.returned (some (Value.int (iZ z)))) (show ((-9)) = (putYr yy) from by unfold putYr; rw [show inb yy (-999999999) 999999999 = false from decide_eq_false (by omega)]; rfl), gX_cast ⟨tb, tn, tm, htn, hfit, htm, by rw [ht]; exact hP⟩ (show (σ) = (putYs σ pj yy) from by unfold putYs; rw [show inb yy (-999999999) 999999999 = false from decide_eq_false (by omega)]; rfl)⟩, hS.F ht⟩) hS.2.2 dX1_putYear_18
  · refine lv_lload_n hx hb dX1_putYear_8 rfl (lv_at hl 2 rfl) ?_
    refine lv_ldc2 (v := lZ 999999999) hx hb hown (hts _ (List.mem_cons_of_mem _ mw740)) dX1_putYear_9 ?_
    refine kz_lcmp_le (tgt := 19) hx hb (by omega) (by omega) dX1_putYear_12 dX1_putYear_13 (by decide) (fun c_2 => ?_) (fun c_2 => ?_)
    · refine lv_aload_n hx hb dX1_putYear_19 rfl (lv_at hl 0 rfl) ?_
      refine va_get (D := (dC, dI)) (ci := 4) (v := .ref (q 2)) (C := RX1) (T := TX1) (N := 8) hx hb hts (fun w h => List.mem_cons_of_mem _ (gF_0_in h)) hown hM.1 hP 0 rfl rfl 1 (by decide) (hts _ (List.mem_cons_of_mem _ mw98)) (fun _ h9 => h9) rfl dX1_putYear_20 ?_
      refine lv_iload_n hx hb dX1_putYear_23 rfl (lv_at hl 1 rfl) ?_
      refine lv_lload_n hx hb dX1_putYear_24 rfl (lv_at hl 2 rfl) ?_
      refine kz_l2i hx hb dX1_putYear_25 ?_
      refine kxs_2 hx hb hq hM.1 hP hS hpj (v1 := yy) dX1_putYear_26 (fun H locs hP hS => ?_)
      refine lv_lload_n hx hb dX1_putYear_27 rfl (lv_at hl 2 rfl) ?_
      refine kc0 (fun _ q => q) (va_runS (As := [.long (lZ (yy))]) (rest := []) ⟨hx, hb, hml, hown, hts⟩ (c_X0_yearLength l _ (yy) (by omega)) (va_cwS 1 hts (kg_S mw182 mw183 mw51 rfl mw184) rfl rfl rfl hdS_X0_yearLength ⟨Nat.le_of_ble_eq_true rfl, Nat.le_of_ble_eq_true rfl⟩) ⟨fun a U g mk q => q, fun U hU hW => ⟨rfl, hU⟩⟩ rfl rfl hl.1 rfl (lv_room (Nat.le_of_ble_eq_true rfl)) dX1_putYear_28 ⟨Nat.le_of_ble_eq_true rfl, Nat.le_of_ble_eq_true rfl⟩) ?_
      exact W.iret (v := iZ (ylen ((yy)))) hx hb hr (fun t ht hW => ⟨⟨congrArg (fun z : Int => Outcome.returned (some (Value.int (iZ z)))) (show (ylen ((yy))) = (putYr yy) from by unfold putYr; rw [show inb yy (-999999999) 999999999 = true from decide_eq_true (by omega)]; rfl), gX_cast ⟨tb, tn, tm, htn, hfit, htm, by rw [ht]; exact hP⟩ (show (sU (σ) 2 pj yy) = (putYs σ pj yy) from by unfold putYs; rw [show inb yy (-999999999) 999999999 = true from decide_eq_true (by omega)]; rfl)⟩, hS.F ht⟩) hS.2.2 dX1_putYear_31
    · refine lv_bipush (v := iZ (-9)) hx hb dX1_putYear_16 rfl ?_
      exact W.iret (v := iZ ((-9))) hx hb hr (fun t ht hW => ⟨⟨congrArg (fun z : Int => Outcome.returned (some (Value.int (iZ z)))) (show ((-9)) = (putYr yy) from by unfold putYr; rw [show inb yy (-999999999) 999999999 = false from decide_eq_false (by omega)]; rfl), gX_cast ⟨tb, tn, tm, htn, hfit, htm, by rw [ht]; exact hP⟩ (show (σ) = (putYs σ pj yy) from by unfold putYs; rw [show inb yy (-999999999) 999999999 = false from decide_eq_false (by omega)]; rfl)⟩, hS.F ht⟩) hS.2.2 dX1_putYear_18

abbrev ww_X1_moveLeaf : List Cond := .code yX1_moveLeaf cX1_moveLeaf 5 (some .int) :: gT
set_option maxHeartbeats 4000000 in
set_option maxRecDepth 100000 in
theorem c_X1_moveLeaf (l : Launch) (dC : Nat → ClassId) (dI : Nat → Nat → Nat) (dA : Nat → ClassId) (k : Nat → Nat) (q : Nat → Nat) (σ : Nat → Nat → Int) (H0 : Heap) (hG : gX dC dI dA q σ H0) (hOK : kOK σ) (hq : kQI q k) (pj : Nat) (mm : Int) (bb : Bool) (hpj : pj < 4) (h0 : -1000000000000000000 ≤ mm ∧ mm ≤ 1000000000000000000) : Met l yX1_moveLeaf ww_X1_moveLeaf ({ frames := 4, cells := 0, slots := 0, locals := 90 }) (va_Pc [.ref (q 0), .int (iZ ((pj : Nat) : Int)), .long (lZ (mm)), .int (iZ (bZ (bb)))] (fun U => U.heap = H0 ∧ kM dC dI dA k U)) (kQ2 (some (.int (iZ (putLr (cnt (σ 0 pj) (σ 1 pj) + sgn mm bb))))) (gX dC dI dA q (putLs σ pj (cnt (σ 0 pj) (σ 1 pj) + sgn mm bb))) (kA q H0.size)) 0 0 (kA q H0.size) := by
  refine Met.ofW (cc := cX1_moveLeaf) (maxL := 5) (ret := (some .int)) (by decide) rfl ?_
  intro p e s m args below meth c s₁ B hml hv
  obtain ⟨rfl, hH, hM⟩ := hv
  subst hH
  obtain ⟨tb, tn, tm, htn, hfit, htm, hP⟩ := hG
  have hS : va_S (kA q s.heap.size) s.heap s.heap [] := va_S.rf
  have o_pj := kOKr hOK hpj
  have hx := B.exec
  have hb := B.bytes
  have hr := B.returns
  have hts := atoms_spec (ws := ww_X1_moveLeaf) B.pre
  have hown : s.vm.findClass RX1 = some m.cls := findClass_of_methodNamed B.named
  have hlocks := B.notSynchronized
  have hl := lv_entry ([.ref (q 0), .int (iZ ((pj : Nat) : Int)), .long (lZ (mm)), .int (iZ (bZ (bb)))]) (n := 5) (Nat.le_of_ble_eq_true rfl)
  rw [lg_entry_eq]
  generalize (lg_sl ([.ref (q 0), .int (iZ ((pj : Nat) : Int)), .long (lZ (mm)), .int (iZ (bZ (bb)))]) ++ List.replicate (5 - (lg_sl ([.ref (q 0), .int (iZ ((pj : Nat) : Int)), .long (lZ (mm)), .int (iZ (bZ (bb)))])).length) Slot.unset).toArray = ls at hl ⊢
  have hl : lv_has ls 5 [(0, .ref (q 0)), (1, .int (iZ ((pj : Nat) : Int))), (2, .long (lZ (mm))), (4, .int (iZ (bZ (bb))))] := hl
  refine lv_aload_n hx hb dX1_moveLeaf_0 rfl (lv_at hl 0 rfl) ?_
  refine lv_iload_n hx hb dX1_moveLeaf_1 rfl (lv_at hl 1 rfl) ?_
  refine lv_aload_n hx hb dX1_moveLeaf_2 rfl (lv_at hl 0 rfl) ?_
  refine va_get (D := (dC, dI)) (ci := 4) (v := .ref (q 1)) (C := RX1) (T := TX1) (N := 8) hx hb hts (fun w h => List.mem_cons_of_mem _ (gF_0_in h)) hown hM.1 hP 0 rfl rfl 0 (by decide) (hts _ (List.mem_cons_of_mem _ mw97)) (fun _ h9 => h9) rfl dX1_moveLeaf_3 ?_
  refine lv_iload_n hx hb dX1_moveLeaf_6 rfl (lv_at hl 1 rfl) ?_
  refine kz_lald (v := cnt (σ 0 pj) (σ 1 pj)) hx hb hM.1 hP 1 1 rfl rfl (by omega) (by decide) rfl dX1_moveLeaf_7 ?_
  refine lv_iload hx hb dX1_moveLeaf_8 (lv_at hl 3 rfl) ?_
  refine kz_ifb_eq (tgt := 18) hx hb  dX1_moveLeaf_10 (by decide) (fun c_1 => ?_) (fun c_1 => ?_)
  · refine lv_lload_n hx hb dX1_moveLeaf_18 rfl (lv_at hl 2 rfl) ?_
    refine kz_ladd hx hb dX1_moveLeaf_19 ?_
    refine kc2 (va_runV (As := [.int (iZ ((pj : Nat) : Int)), .long (lZ ((cnt (σ 0 pj) (σ 1 pj)) + mm))]) (rest := []) ⟨hx, hb, hml, hown, hts⟩ (c_X1_putLeaf l dC dI dA k q (σ) _ ⟨tb, tn, tm, htn, hfit, htm, hP⟩ (hOK) hq pj (((cnt (σ 0 pj) (σ 1 pj)) + mm)) hpj (by omega)) (cwV 2 hts (kg_V mw616 mw617 mw19 mw42 rfl mw618) rfl rfl rfl hdV_X1_putLeaf ⟨Nat.le_of_ble_eq_true rfl, Nat.le_of_ble_eq_true rfl⟩) ⟨fun a U g mk q => ⟨q.1, q.2.1, kM_call q.2.2⟩, va_recv hM.1 hP (ci := 4) (q0 := 0) rfl rfl, fun U hU hW => ⟨rfl, hU, kM_kept hM hS (kA_N hq hM.2.1.1) hU hW⟩⟩ rfl rfl hl.1 rfl (lv_room (Nat.le_of_ble_eq_true rfl)) dX1_moveLeaf_20 ⟨Nat.le_of_ble_eq_true rfl, Nat.le_of_ble_eq_true rfl⟩) hS (fun a _ h => kA_up hS.1 a h) (fun a h => kA_up hS.1 a h) (fun H locs hG hz9 hk9 hS => ?_)
    obtain ⟨tb, tn, tm, htn, hfit, htm, hP⟩ := hG
    exact W.iret (v := iZ (putLr ((((cnt (σ 0 pj) (σ 1 pj)) + mm))))) hx hb hr (fun t ht hW => ⟨⟨congrArg (fun z : Int => Outcome.returned (some (Value.int (iZ z)))) (show (putLr ((((cnt (σ 0 pj) (σ 1 pj)) + mm)))) = (putLr (cnt (σ 0 pj) (σ 1 pj) + sgn mm bb)) from by unfold sgn; simp [*]), gX_cast ⟨tb, tn, tm, htn, hfit, htm, by rw [ht]; exact hP⟩ (show (putLs σ pj ((((cnt (σ 0 pj) (σ 1 pj)) + mm)))) = (putLs σ pj (cnt (σ 0 pj) (σ 1 pj) + sgn mm bb)) from by unfold sgn; simp [*])⟩, hS.F ht⟩) hS.2.2 dX1_moveLeaf_23
  · refine lv_lload_n hx hb dX1_moveLeaf_13 rfl (lv_at hl 2 rfl) ?_
    refine kz_lneg hx hb dX1_moveLeaf_14 ?_
    refine lv_goto (tgt := 19) hx hb dX1_moveLeaf_15 (by decide) ?_
    refine kz_ladd hx hb dX1_moveLeaf_19 ?_
    refine kc2 (va_runV (As := [.int (iZ ((pj : Nat) : Int)), .long (lZ ((cnt (σ 0 pj) (σ 1 pj)) + (-mm)))]) (rest := []) ⟨hx, hb, hml, hown, hts⟩ (c_X1_putLeaf l dC dI dA k q (σ) _ ⟨tb, tn, tm, htn, hfit, htm, hP⟩ (hOK) hq pj (((cnt (σ 0 pj) (σ 1 pj)) + (-mm))) hpj (by omega)) (cwV 2 hts (kg_V mw616 mw617 mw19 mw42 rfl mw618) rfl rfl rfl hdV_X1_putLeaf ⟨Nat.le_of_ble_eq_true rfl, Nat.le_of_ble_eq_true rfl⟩) ⟨fun a U g mk q => ⟨q.1, q.2.1, kM_call q.2.2⟩, va_recv hM.1 hP (ci := 4) (q0 := 0) rfl rfl, fun U hU hW => ⟨rfl, hU, kM_kept hM hS (kA_N hq hM.2.1.1) hU hW⟩⟩ rfl rfl hl.1 rfl (lv_room (Nat.le_of_ble_eq_true rfl)) dX1_moveLeaf_20 ⟨Nat.le_of_ble_eq_true rfl, Nat.le_of_ble_eq_true rfl⟩) hS (fun a _ h => kA_up hS.1 a h) (fun a h => kA_up hS.1 a h) (fun H locs hG hz9 hk9 hS => ?_)
    obtain ⟨tb, tn, tm, htn, hfit, htm, hP⟩ := hG
    exact W.iret (v := iZ (putLr ((((cnt (σ 0 pj) (σ 1 pj)) + (-mm)))))) hx hb hr (fun t ht hW => ⟨⟨congrArg (fun z : Int => Outcome.returned (some (Value.int (iZ z)))) (show (putLr ((((cnt (σ 0 pj) (σ 1 pj)) + (-mm))))) = (putLr (cnt (σ 0 pj) (σ 1 pj) + sgn mm bb)) from by unfold sgn; simp [*]), gX_cast ⟨tb, tn, tm, htn, hfit, htm, by rw [ht]; exact hP⟩ (show (putLs σ pj ((((cnt (σ 0 pj) (σ 1 pj)) + (-mm))))) = (putLs σ pj (cnt (σ 0 pj) (σ 1 pj) + sgn mm bb)) from by unfold sgn; simp [*])⟩, hS.F ht⟩) hS.2.2 dX1_moveLeaf_23

abbrev ww_X1_moveYear : List Cond := .code yX1_moveYear cX1_moveYear 5 (some .int) :: gT
set_option maxHeartbeats 4000000 in
set_option maxRecDepth 100000 in
theorem c_X1_moveYear (l : Launch) (dC : Nat → ClassId) (dI : Nat → Nat → Nat) (dA : Nat → ClassId) (k : Nat → Nat) (q : Nat → Nat) (σ : Nat → Nat → Int) (H0 : Heap) (hG : gX dC dI dA q σ H0) (hOK : kOK σ) (hq : kQI q k) (pj : Nat) (mm : Int) (bb : Bool) (hpj : pj < 4) (h0 : -1000000000000000000 ≤ mm ∧ mm ≤ 1000000000000000000) : Met l yX1_moveYear ww_X1_moveYear ({ frames := 3, cells := 0, slots := 0, locals := 65 }) (va_Pc [.ref (q 0), .int (iZ ((pj : Nat) : Int)), .long (lZ (mm)), .int (iZ (bZ (bb)))] (fun U => U.heap = H0 ∧ kM dC dI dA k U)) (kQ2 (some (.int (iZ (putYr (σ 2 pj + sgn mm bb))))) (gX dC dI dA q (putYs σ pj (σ 2 pj + sgn mm bb))) (kA q H0.size)) 0 0 (kA q H0.size) := by
  refine Met.ofW (cc := cX1_moveYear) (maxL := 5) (ret := (some .int)) (by decide) rfl ?_
  intro p e s m args below meth c s₁ B hml hv
  obtain ⟨rfl, hH, hM⟩ := hv
  subst hH
  obtain ⟨tb, tn, tm, htn, hfit, htm, hP⟩ := hG
  have hS : va_S (kA q s.heap.size) s.heap s.heap [] := va_S.rf
  have o_pj := kOKr hOK hpj
  have hx := B.exec
  have hb := B.bytes
  have hr := B.returns
  have hts := atoms_spec (ws := ww_X1_moveYear) B.pre
  have hown : s.vm.findClass RX1 = some m.cls := findClass_of_methodNamed B.named
  have hlocks := B.notSynchronized
  have hl := lv_entry ([.ref (q 0), .int (iZ ((pj : Nat) : Int)), .long (lZ (mm)), .int (iZ (bZ (bb)))]) (n := 5) (Nat.le_of_ble_eq_true rfl)
  rw [lg_entry_eq]
  generalize (lg_sl ([.ref (q 0), .int (iZ ((pj : Nat) : Int)), .long (lZ (mm)), .int (iZ (bZ (bb)))]) ++ List.replicate (5 - (lg_sl ([.ref (q 0), .int (iZ ((pj : Nat) : Int)), .long (lZ (mm)), .int (iZ (bZ (bb)))])).length) Slot.unset).toArray = ls at hl ⊢
  have hl : lv_has ls 5 [(0, .ref (q 0)), (1, .int (iZ ((pj : Nat) : Int))), (2, .long (lZ (mm))), (4, .int (iZ (bZ (bb))))] := hl
  refine lv_aload_n hx hb dX1_moveYear_0 rfl (lv_at hl 0 rfl) ?_
  refine lv_iload_n hx hb dX1_moveYear_1 rfl (lv_at hl 1 rfl) ?_
  refine lv_aload_n hx hb dX1_moveYear_2 rfl (lv_at hl 0 rfl) ?_
  refine va_get (D := (dC, dI)) (ci := 4) (v := .ref (q 2)) (C := RX1) (T := TX1) (N := 8) hx hb hts (fun w h => List.mem_cons_of_mem _ (gF_0_in h)) hown hM.1 hP 0 rfl rfl 1 (by decide) (hts _ (List.mem_cons_of_mem _ mw98)) (fun _ h9 => h9) rfl dX1_moveYear_3 ?_
  refine lv_iload_n hx hb dX1_moveYear_6 rfl (lv_at hl 1 rfl) ?_
  refine kz_iald (v := σ 2 pj) hx hb hM.1 hP 2 0 rfl rfl (by omega) (by decide) rfl dX1_moveYear_7 ?_
  refine kz_i2l hx hb (by omega) dX1_moveYear_8 ?_
  refine lv_iload hx hb dX1_moveYear_9 (lv_at hl 3 rfl) ?_
  refine kz_ifb_eq (tgt := 19) hx hb  dX1_moveYear_11 (by decide) (fun c_1 => ?_) (fun c_1 => ?_)
  · refine lv_lload_n hx hb dX1_moveYear_19 rfl (lv_at hl 2 rfl) ?_
    refine kz_ladd hx hb dX1_moveYear_20 ?_
    refine kc2 (va_runV (As := [.int (iZ ((pj : Nat) : Int)), .long (lZ (((σ 2 pj)) + mm))]) (rest := []) ⟨hx, hb, hml, hown, hts⟩ (c_X1_putYear l dC dI dA k q (σ) _ ⟨tb, tn, tm, htn, hfit, htm, hP⟩ (hOK) hq pj ((((σ 2 pj)) + mm)) hpj (by omega)) (cwV 2 hts (kg_V mw736 mw737 mw21 mw42 rfl mw738) rfl rfl rfl hdV_X1_putYear ⟨Nat.le_of_ble_eq_true rfl, Nat.le_of_ble_eq_true rfl⟩) ⟨fun a U g mk q => ⟨q.1, q.2.1, kM_call q.2.2⟩, va_recv hM.1 hP (ci := 4) (q0 := 0) rfl rfl, fun U hU hW => ⟨rfl, hU, kM_kept hM hS (kA_N hq hM.2.1.1) hU hW⟩⟩ rfl rfl hl.1 rfl (lv_room (Nat.le_of_ble_eq_true rfl)) dX1_moveYear_21 ⟨Nat.le_of_ble_eq_true rfl, Nat.le_of_ble_eq_true rfl⟩) hS (fun a _ h => kA_up hS.1 a h) (fun a h => kA_up hS.1 a h) (fun H locs hG hz9 hk9 hS => ?_)
    obtain ⟨tb, tn, tm, htn, hfit, htm, hP⟩ := hG
    exact W.iret (v := iZ (putYr (((((σ 2 pj)) + mm))))) hx hb hr (fun t ht hW => ⟨⟨congrArg (fun z : Int => Outcome.returned (some (Value.int (iZ z)))) (show (putYr (((((σ 2 pj)) + mm)))) = (putYr (σ 2 pj + sgn mm bb)) from by unfold sgn; simp [*]), gX_cast ⟨tb, tn, tm, htn, hfit, htm, by rw [ht]; exact hP⟩ (show (putYs σ pj (((((σ 2 pj)) + mm)))) = (putYs σ pj (σ 2 pj + sgn mm bb)) from by unfold sgn; simp [*])⟩, hS.F ht⟩) hS.2.2 dX1_moveYear_24
  · refine lv_lload_n hx hb dX1_moveYear_14 rfl (lv_at hl 2 rfl) ?_
    refine kz_lneg hx hb dX1_moveYear_15 ?_
    refine lv_goto (tgt := 20) hx hb dX1_moveYear_16 (by decide) ?_
    refine kz_ladd hx hb dX1_moveYear_20 ?_
    refine kc2 (va_runV (As := [.int (iZ ((pj : Nat) : Int)), .long (lZ (((σ 2 pj)) + (-mm)))]) (rest := []) ⟨hx, hb, hml, hown, hts⟩ (c_X1_putYear l dC dI dA k q (σ) _ ⟨tb, tn, tm, htn, hfit, htm, hP⟩ (hOK) hq pj ((((σ 2 pj)) + (-mm))) hpj (by omega)) (cwV 2 hts (kg_V mw736 mw737 mw21 mw42 rfl mw738) rfl rfl rfl hdV_X1_putYear ⟨Nat.le_of_ble_eq_true rfl, Nat.le_of_ble_eq_true rfl⟩) ⟨fun a U g mk q => ⟨q.1, q.2.1, kM_call q.2.2⟩, va_recv hM.1 hP (ci := 4) (q0 := 0) rfl rfl, fun U hU hW => ⟨rfl, hU, kM_kept hM hS (kA_N hq hM.2.1.1) hU hW⟩⟩ rfl rfl hl.1 rfl (lv_room (Nat.le_of_ble_eq_true rfl)) dX1_moveYear_21 ⟨Nat.le_of_ble_eq_true rfl, Nat.le_of_ble_eq_true rfl⟩) hS (fun a _ h => kA_up hS.1 a h) (fun a h => kA_up hS.1 a h) (fun H locs hG hz9 hk9 hS => ?_)
    obtain ⟨tb, tn, tm, htn, hfit, htm, hP⟩ := hG
    exact W.iret (v := iZ (putYr (((((σ 2 pj)) + (-mm)))))) hx hb hr (fun t ht hW => ⟨⟨congrArg (fun z : Int => Outcome.returned (some (Value.int (iZ z)))) (show (putYr (((((σ 2 pj)) + (-mm))))) = (putYr (σ 2 pj + sgn mm bb)) from by unfold sgn; simp [*]), gX_cast ⟨tb, tn, tm, htn, hfit, htm, by rw [ht]; exact hP⟩ (show (putYs σ pj (((((σ 2 pj)) + (-mm))))) = (putYs σ pj (σ 2 pj + sgn mm bb)) from by unfold sgn; simp [*])⟩, hS.F ht⟩) hS.2.2 dX1_moveYear_24

def putFr (m d : Int) : Bool := decide (d ≤ mlen true m)
def putFs (σ : Nat → Nat → Int) (j : Nat) (m d : Int) : Nat → Nat → Int := if putFr m d = true then sU (sU σ 3 j m) 4 j d else σ
abbrev ww_X1_putFeast : List Cond := .code yX1_putFeast cX1_putFeast 4 (some .boolean) :: gT
set_option maxHeartbeats 4000000 in
set_option maxRecDepth 100000 in
theorem c_X1_putFeast (l : Launch) (dC : Nat → ClassId) (dI : Nat → Nat → Nat) (dA : Nat → ClassId) (k : Nat → Nat) (q : Nat → Nat) (σ : Nat → Nat → Int) (H0 : Heap) (hG : gX dC dI dA q σ H0) (hOK : kOK σ) (hq : kQI q k) (pj : Nat) (mo : Int) (dd : Int) (hpj : pj < 4) (h0 : -2147483648 ≤ mo ∧ mo < 2147483648) (h1 : -2147483648 ≤ dd ∧ dd < 2147483648) : Met l yX1_putFeast ww_X1_putFeast ({ frames := 1, cells := 0, slots := 0, locals := 21 }) (va_Pc [.ref (q 0), .int (iZ ((pj : Nat) : Int)), .int (iZ mo), .int (iZ dd)] (fun U => U.heap = H0 ∧ kM dC dI dA k U)) (kQ2 (some (.int (iZ (bZ (putFr mo dd))))) (gX dC dI dA q (putFs σ pj mo dd)) (kA q H0.size)) 0 0 (kA q H0.size) := by
  refine Met.ofW (cc := cX1_putFeast) (maxL := 4) (ret := (some .boolean)) (by decide) rfl ?_
  intro p e s m args below meth c s₁ B hml hv
  obtain ⟨rfl, hH, hM⟩ := hv
  subst hH
  obtain ⟨tb, tn, tm, htn, hfit, htm, hP⟩ := hG
  have hS : va_S (kA q s.heap.size) s.heap s.heap [] := va_S.rf
  have o_pj := kOKr hOK hpj
  have hx := B.exec
  have hb := B.bytes
  have hr := B.returns
  have hts := atoms_spec (ws := ww_X1_putFeast) B.pre
  have hown : s.vm.findClass RX1 = some m.cls := findClass_of_methodNamed B.named
  have hlocks := B.notSynchronized
  have hl := lv_entry ([.ref (q 0), .int (iZ ((pj : Nat) : Int)), .int (iZ mo), .int (iZ dd)]) (n := 4) (Nat.le_of_ble_eq_true rfl)
  rw [lg_entry_eq]
  generalize (lg_sl ([.ref (q 0), .int (iZ ((pj : Nat) : Int)), .int (iZ mo), .int (iZ dd)]) ++ List.replicate (4 - (lg_sl ([.ref (q 0), .int (iZ ((pj : Nat) : Int)), .int (iZ mo), .int (iZ dd)])).length) Slot.unset).toArray = ls at hl ⊢
  have hl : lv_has ls 4 [(0, .ref (q 0)), (1, .int (iZ ((pj : Nat) : Int))), (2, .int (iZ mo)), (3, .int (iZ dd))] := hl
  refine lv_iload_n hx hb dX1_putFeast_0 rfl (lv_at hl 3 rfl) ?_
  refine lv_iload_n hx hb dX1_putFeast_1 rfl (lv_at hl 2 rfl) ?_
  refine lv_iconst (v := iZ 1) hx hb dX1_putFeast_2 rfl ?_
  refine kc0 (fun _ q => q) (va_runS (As := [.int (iZ mo), .int (iZ (bZ true))]) (rest := [.int (iZ dd)]) ⟨hx, hb, hml, hown, hts⟩ (c_X0_monthLength l _ (mo) true (by omega)) (va_cwS 2 hts (kg_S mw541 mw150 mw51 rfl mw151) rfl rfl rfl hdS_X0_monthLength ⟨Nat.le_of_ble_eq_true rfl, Nat.le_of_ble_eq_true rfl⟩) ⟨fun a U g mk q => q, fun U hU hW => ⟨rfl, hU⟩⟩ rfl rfl hl.1 rfl (lv_room (Nat.le_of_ble_eq_true rfl)) dX1_putFeast_3 ⟨Nat.le_of_ble_eq_true rfl, Nat.le_of_ble_eq_true rfl⟩) ?_
  refine kz_icmp_le (tgt := 11) hx hb (by first | omega | (have := mlen_rng true mo; omega)) (by first | omega | (have := mlen_rng true mo; omega)) dX1_putFeast_6 (by decide) (fun c_1 => ?_) (fun c_1 => ?_)
  · refine lv_aload_n hx hb dX1_putFeast_11 rfl (lv_at hl 0 rfl) ?_
    refine va_get (D := (dC, dI)) (ci := 4) (v := .ref (q 3)) (C := RX1) (T := TX1) (N := 8) hx hb hts (fun w h => List.mem_cons_of_mem _ (gF_0_in h)) hown hM.1 hP 0 rfl rfl 2 (by decide) (hts _ (List.mem_cons_of_mem _ mw99)) (fun _ h9 => h9) rfl dX1_putFeast_12 ?_
    refine lv_iload_n hx hb dX1_putFeast_15 rfl (lv_at hl 1 rfl) ?_
    refine lv_iload_n hx hb dX1_putFeast_16 rfl (lv_at hl 2 rfl) ?_
    refine kxs_3 hx hb hq hM.1 hP hS hpj (v1 := mo) dX1_putFeast_17 (fun H locs hP hS => ?_)
    refine lv_aload_n hx hb dX1_putFeast_18 rfl (lv_at hl 0 rfl) ?_
    refine va_get (D := (dC, dI)) (ci := 4) (v := .ref (q 4)) (C := RX1) (T := TX1) (N := 8) hx hb hts (fun w h => List.mem_cons_of_mem _ (gF_0_in h)) hown hM.1 hP 0 rfl rfl 3 (by decide) (hts _ (List.mem_cons_of_mem _ mw100)) (fun _ h9 => h9) rfl dX1_putFeast_19 ?_
    refine lv_iload_n hx hb dX1_putFeast_22 rfl (lv_at hl 1 rfl) ?_
    refine lv_iload_n hx hb dX1_putFeast_23 rfl (lv_at hl 3 rfl) ?_
    refine kxs_4 hx hb hq hM.1 hP hS hpj (v1 := dd) dX1_putFeast_24 (fun H locs hP hS => ?_)
    refine lv_iconst (v := iZ 1) hx hb dX1_putFeast_25 rfl ?_
    exact W.zret (v := iZ 1) (ty := .boolean) hx hb hr rfl (fun t ht hW => ⟨⟨congrArg (fun z : Int => Outcome.returned (some (Value.int (iZ z)))) (show 1 = (bZ (putFr mo dd)) from by unfold putFr; exact bZ_d1 (by omega)), gX_cast ⟨tb, tn, tm, htn, hfit, htm, by rw [ht]; exact hP⟩ (show (sU (sU (σ) 3 pj mo) 4 pj dd) = (putFs σ pj mo dd) from by unfold putFs; rw [show putFr mo dd = true from by unfold putFr; simp; omega]; rfl)⟩, hS.F ht⟩) hS.2.2 dX1_putFeast_26
  · refine lv_iconst (v := iZ 0) hx hb dX1_putFeast_9 rfl ?_
    exact W.zret (v := iZ 0) (ty := .boolean) hx hb hr rfl (fun t ht hW => ⟨⟨congrArg (fun z : Int => Outcome.returned (some (Value.int (iZ z)))) (show 0 = (bZ (putFr mo dd)) from by unfold putFr; exact bZ_d0 (by omega)), gX_cast ⟨tb, tn, tm, htn, hfit, htm, by rw [ht]; exact hP⟩ (show (σ) = (putFs σ pj mo dd) from by unfold putFs; rw [show putFr mo dd = false from by unfold putFr; simp; omega]; rfl)⟩, hS.F ht⟩) hS.2.2 dX1_putFeast_10

abbrev ww_X1_putDay : List Cond := .code yX1_putDay cX1_putDay 5 none :: gT
set_option maxHeartbeats 4000000 in
set_option maxRecDepth 100000 in
theorem c_X1_putDay (l : Launch) (dC : Nat → ClassId) (dI : Nat → Nat → Nat) (dA : Nat → ClassId) (k : Nat → Nat) (q : Nat → Nat) (σ : Nat → Nat → Int) (H0 : Heap) (hG : gX dC dI dA q σ H0) (hOK : kOK σ) (hq : kQI q k) (pj : Nat) (cn : Int) (dd : Int) (hpj : pj < 4) : Met l yX1_putDay ww_X1_putDay ({ frames := 0, cells := 0, slots := 0, locals := 0 }) (va_Pc [.ref (q 0), .int (iZ ((pj : Nat) : Int)), .long (lZ (cn)), .int (iZ dd)] (fun U => U.heap = H0 ∧ kM dC dI dA k U)) (kQ2 (none) (gX dC dI dA q (sU (sU (sU σ 5 pj (yearOf cn)) 6 pj (monOf cn)) 7 pj dd)) (kA q H0.size)) 0 0 (kA q H0.size) := by
  refine Met.ofW (cc := cX1_putDay) (maxL := 5) (ret := none) (by decide) rfl ?_
  intro p e s m args below meth c s₁ B hml hv
  obtain ⟨rfl, hH, hM⟩ := hv
  subst hH
  obtain ⟨tb, tn, tm, htn, hfit, htm, hP⟩ := hG
  have hS : va_S (kA q s.heap.size) s.heap s.heap [] := va_S.rf
  have o_pj := kOKr hOK hpj
  have hx := B.exec
  have hb := B.bytes
  have hr := B.returns
  have hts := atoms_spec (ws := ww_X1_putDay) B.pre
  have hown : s.vm.findClass RX1 = some m.cls := findClass_of_methodNamed B.named
  have hlocks := B.notSynchronized
  have hl := lv_entry ([.ref (q 0), .int (iZ ((pj : Nat) : Int)), .long (lZ (cn)), .int (iZ dd)]) (n := 5) (Nat.le_of_ble_eq_true rfl)
  rw [lg_entry_eq]
  generalize (lg_sl ([.ref (q 0), .int (iZ ((pj : Nat) : Int)), .long (lZ (cn)), .int (iZ dd)]) ++ List.replicate (5 - (lg_sl ([.ref (q 0), .int (iZ ((pj : Nat) : Int)), .long (lZ (cn)), .int (iZ dd)])).length) Slot.unset).toArray = ls at hl ⊢
  have hl : lv_has ls 5 [(0, .ref (q 0)), (1, .int (iZ ((pj : Nat) : Int))), (2, .long (lZ (cn))), (4, .int (iZ dd))] := hl
  refine lv_aload_n hx hb dX1_putDay_0 rfl (lv_at hl 0 rfl) ?_
  refine va_get (D := (dC, dI)) (ci := 4) (v := .ref (q 5)) (C := RX1) (T := TX1) (N := 8) hx hb hts (fun w h => List.mem_cons_of_mem _ (gF_0_in h)) hown hM.1 hP 0 rfl rfl 4 (by decide) (hts _ (List.mem_cons_of_mem _ mw101)) (fun _ h9 => h9) rfl dX1_putDay_1 ?_
  refine lv_iload_n hx hb dX1_putDay_4 rfl (lv_at hl 1 rfl) ?_
  refine lv_lload_n hx hb dX1_putDay_5 rfl (lv_at hl 2 rfl) ?_
  refine kxs_5 hx hb hq hM.1 hP hS hpj (y1 := yearOf cn) (m1 := monOf cn) (cnt_of cn) dX1_putDay_6 (fun H locs hP hS => ?_)
  refine lv_aload_n hx hb dX1_putDay_7 rfl (lv_at hl 0 rfl) ?_
  refine va_get (D := (dC, dI)) (ci := 4) (v := .ref (q 6)) (C := RX1) (T := TX1) (N := 8) hx hb hts (fun w h => List.mem_cons_of_mem _ (gF_0_in h)) hown hM.1 hP 0 rfl rfl 5 (by decide) (hts _ (List.mem_cons_of_mem _ mw102)) (fun _ h9 => h9) rfl dX1_putDay_8 ?_
  refine lv_iload_n hx hb dX1_putDay_11 rfl (lv_at hl 1 rfl) ?_
  refine lv_iload hx hb dX1_putDay_12 (lv_at hl 3 rfl) ?_
  refine kxs_6 hx hb hq hM.1 hP hS hpj (v1 := dd) dX1_putDay_14 (fun H locs hP hS => ?_)
  exact W.vret hx hb hr (fun t ht hW => ⟨⟨rfl, gX_cast ⟨tb, tn, tm, htn, hfit, htm, by rw [ht]; exact hP⟩ (show (sU (sU (sU (σ) 5 pj (yearOf cn)) 6 pj (monOf cn)) 7 pj dd) = (sU (sU (sU σ 5 pj (yearOf cn)) 6 pj (monOf cn)) 7 pj dd) from by rfl)⟩, hS.F ht⟩) hS.2.2 dX1_putDay_15

abbrev ww_X1_putDayOfFeast : List Cond := .code yX1_putDayOfFeast cX1_putDayOfFeast 4 none :: gT
set_option maxHeartbeats 4000000 in
set_option maxRecDepth 100000 in
theorem c_X1_putDayOfFeast (l : Launch) (dC : Nat → ClassId) (dI : Nat → Nat → Nat) (dA : Nat → ClassId) (k : Nat → Nat) (q : Nat → Nat) (σ : Nat → Nat → Int) (H0 : Heap) (hG : gX dC dI dA q σ H0) (hOK : kOK σ) (hq : kQI q k) (pj : Nat) (pi : Nat) (yy : Int) (hpj : pj < 4) (hpi : pi < 4) (h0 : -1000000000 ≤ yy ∧ yy ≤ 1000000000) : Met l yX1_putDayOfFeast ww_X1_putDayOfFeast ({ frames := 3, cells := 0, slots := 0, locals := 65 }) (va_Pc [.ref (q 0), .int (iZ ((pj : Nat) : Int)), .int (iZ ((pi : Nat) : Int)), .int (iZ yy)] (fun U => U.heap = H0 ∧ kM dC dI dA k U)) (kQ2 (none) (gX dC dI dA q (sU (sU (sU σ 5 pj yy) 6 pj (σ 3 pi)) 7 pj (dayIn σ pi yy))) (kA q H0.size)) 0 0 (kA q H0.size) := by
  refine Met.ofW (cc := cX1_putDayOfFeast) (maxL := 4) (ret := none) (by decide) rfl ?_
  intro p e s m args below meth c s₁ B hml hv
  obtain ⟨rfl, hH, hM⟩ := hv
  subst hH
  obtain ⟨tb, tn, tm, htn, hfit, htm, hP⟩ := hG
  have hS : va_S (kA q s.heap.size) s.heap s.heap [] := va_S.rf
  have o_pj := kOKr hOK hpj
  have o_pi := kOKr hOK hpi
  have hx := B.exec
  have hb := B.bytes
  have hr := B.returns
  have hts := atoms_spec (ws := ww_X1_putDayOfFeast) B.pre
  have hown : s.vm.findClass RX1 = some m.cls := findClass_of_methodNamed B.named
  have hlocks := B.notSynchronized
  have hl := lv_entry ([.ref (q 0), .int (iZ ((pj : Nat) : Int)), .int (iZ ((pi : Nat) : Int)), .int (iZ yy)]) (n := 4) (Nat.le_of_ble_eq_true rfl)
  rw [lg_entry_eq]
  generalize (lg_sl ([.ref (q 0), .int (iZ ((pj : Nat) : Int)), .int (iZ ((pi : Nat) : Int)), .int (iZ yy)]) ++ List.replicate (4 - (lg_sl ([.ref (q 0), .int (iZ ((pj : Nat) : Int)), .int (iZ ((pi : Nat) : Int)), .int (iZ yy)])).length) Slot.unset).toArray = ls at hl ⊢
  have hl : lv_has ls 4 [(0, .ref (q 0)), (1, .int (iZ ((pj : Nat) : Int))), (2, .int (iZ ((pi : Nat) : Int))), (3, .int (iZ yy))] := hl
  refine lv_aload_n hx hb dX1_putDayOfFeast_0 rfl (lv_at hl 0 rfl) ?_
  refine lv_iload_n hx hb dX1_putDayOfFeast_1 rfl (lv_at hl 1 rfl) ?_
  refine lv_iload_n hx hb dX1_putDayOfFeast_2 rfl (lv_at hl 3 rfl) ?_
  refine lv_aload_n hx hb dX1_putDayOfFeast_3 rfl (lv_at hl 0 rfl) ?_
  refine va_get (D := (dC, dI)) (ci := 4) (v := .ref (q 3)) (C := RX1) (T := TX1) (N := 8) hx hb hts (fun w h => List.mem_cons_of_mem _ (gF_0_in h)) hown hM.1 hP 0 rfl rfl 2 (by decide) (hts _ (List.mem_cons_of_mem _ mw99)) (fun _ h9 => h9) rfl dX1_putDayOfFeast_4 ?_
  refine lv_iload_n hx hb dX1_putDayOfFeast_7 rfl (lv_at hl 2 rfl) ?_
  refine kz_iald (v := σ 3 pi) hx hb hM.1 hP 3 0 rfl rfl (by omega) (by decide) rfl dX1_putDayOfFeast_8 ?_
  refine kc0 (fun _ q => q) (va_runS (As := [.int (iZ yy), .int (iZ (σ 3 pi))]) (rest := [.int (iZ ((pj : Nat) : Int)), .ref (q 0)]) ⟨hx, hb, hml, hown, hts⟩ (c_X0_countOf l _ (yy) ((σ 3 pi)) (by first | omega | (have : 1 ≤ dayIn σ pi yy ∧ dayIn σ pi yy ≤ 31 := by (unfold dayIn; split <;> omega)); first | omega | (unfold cnt; omega)) (by first | omega | (have : 1 ≤ dayIn σ pi yy ∧ dayIn σ pi yy ≤ 31 := by (unfold dayIn; split <;> omega)); first | omega | (unfold cnt; omega))) (va_cwS 2 hts (kg_S mw154 mw155 mw51 rfl mw156) rfl rfl rfl hdS_X0_countOf ⟨Nat.le_of_ble_eq_true rfl, Nat.le_of_ble_eq_true rfl⟩) ⟨fun a U g mk q => q, fun U hU hW => ⟨rfl, hU⟩⟩ rfl rfl hl.1 rfl (lv_room (Nat.le_of_ble_eq_true rfl)) dX1_putDayOfFeast_9 ⟨Nat.le_of_ble_eq_true rfl, Nat.le_of_ble_eq_true rfl⟩) ?_
  refine lv_aload_n hx hb dX1_putDayOfFeast_12 rfl (lv_at hl 0 rfl) ?_
  refine lv_iload_n hx hb dX1_putDayOfFeast_13 rfl (lv_at hl 2 rfl) ?_
  refine lv_iload_n hx hb dX1_putDayOfFeast_14 rfl (lv_at hl 3 rfl) ?_
  refine kc0 (fun _ q => q) (va_runV (As := [.int (iZ ((pi : Nat) : Int)), .int (iZ yy)]) (rest := [.long (lZ (12 * ((yy)) + (((σ 3 pi))) - 1)), .int (iZ ((pj : Nat) : Int)), .ref (q 0)]) ⟨hx, hb, hml, hown, hts⟩ (c_X1_dayOfFeastIn l dC dI dA k q (σ) _ ⟨tb, tn, tm, htn, hfit, htm, hP⟩ (hOK) pi (yy) (by first | omega | (have : 1 ≤ dayIn σ pi yy ∧ dayIn σ pi yy ≤ 31 := by (unfold dayIn; split <;> omega)); first | omega | (unfold cnt; omega)) (by first | omega | (have : 1 ≤ dayIn σ pi yy ∧ dayIn σ pi yy ≤ 31 := by (unfold dayIn; split <;> omega)); first | omega | (unfold cnt; omega))) (cwV 2 hts (kg_V mw199 mw200 mw3 mw42 rfl mw201) rfl rfl rfl hdV_X1_dayOfFeastIn ⟨Nat.le_of_ble_eq_true rfl, Nat.le_of_ble_eq_true rfl⟩) ⟨fun a U g mk q => ⟨q.1, q.2.1, kM_call q.2.2⟩, va_recv hM.1 hP (ci := 4) (q0 := 0) rfl rfl, fun U hU hW => ⟨rfl, hU, kM_same hM hU hW⟩⟩ rfl rfl hl.1 rfl (lv_room (Nat.le_of_ble_eq_true rfl)) dX1_putDayOfFeast_15 ⟨Nat.le_of_ble_eq_true rfl, Nat.le_of_ble_eq_true rfl⟩) ?_
  refine kc2 (va_runV (As := [.int (iZ ((pj : Nat) : Int)), .long (lZ (12 * ((yy)) + (((σ 3 pi))) - 1)), .int (iZ (dayIn σ pi ((yy))))]) (rest := []) ⟨hx, hb, hml, hown, hts⟩ (c_X1_putDay l dC dI dA k q (σ) _ ⟨tb, tn, tm, htn, hfit, htm, hP⟩ (hOK) hq pj ((12 * ((yy)) + (((σ 3 pi))) - 1)) ((dayIn σ pi ((yy)))) hpj) (cwV 3 hts (kg_V mw836 mw837 mw24 mw42 rfl mw838) rfl rfl rfl hdV_X1_putDay ⟨Nat.le_of_ble_eq_true rfl, Nat.le_of_ble_eq_true rfl⟩) ⟨fun a U g mk q => ⟨q.1, q.2.1, kM_call q.2.2⟩, va_recv hM.1 hP (ci := 4) (q0 := 0) rfl rfl, fun U hU hW => ⟨rfl, hU, kM_kept hM hS (kA_N hq hM.2.1.1) hU hW⟩⟩ rfl rfl hl.1 rfl (lv_room (Nat.le_of_ble_eq_true rfl)) dX1_putDayOfFeast_18 ⟨Nat.le_of_ble_eq_true rfl, Nat.le_of_ble_eq_true rfl⟩) hS (fun a _ h => kA_up hS.1 a h) (fun a h => kA_up hS.1 a h) (fun H locs hG hz9 hk9 hS => ?_)
  obtain ⟨tb, tn, tm, htn, hfit, htm, hP⟩ := hG
  exact W.vret hx hb hr (fun t ht hW => ⟨⟨rfl, gX_cast ⟨tb, tn, tm, htn, hfit, htm, by rw [ht]; exact hP⟩ (show (sU (sU (sU σ 5 pj (yearOf (((12 * ((yy)) + (((σ 3 pi))) - 1))))) 6 pj (monOf (((12 * ((yy)) + (((σ 3 pi))) - 1))))) 7 pj (((dayIn σ pi ((yy)))))) = (sU (sU (sU σ 5 pj yy) 6 pj (σ 3 pi)) 7 pj (dayIn σ pi yy)) from by rw [show yearOf (12 * yy + σ 3 pi - 1) = yy from yearOf_cnt (y := yy) (m := σ 3 pi) (by omega), show monOf (12 * yy + σ 3 pi - 1) = σ 3 pi from monOf_cnt (y := yy) (m := σ 3 pi) (by omega)])⟩, hS.F ht⟩) hS.2.2 dX1_putDayOfFeast_21

