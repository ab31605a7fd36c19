theorem kP_arrI {D : va_G} {cl : List vw_C} {ws : va_W} {H : Heap} (h : va_P D cl ws H) (q0 : Nat) {a : Nat} {c : ClassId} {N : Nat} {f g : Nat → Int32} (ha : ws[q0]? = some (a, .inl (c, N, .inl f))) (e : ∀ i : Nat, i < N → f i = g i) : va_P D cl (ws.set q0 (a, .inl (c, N, .inl g))) H := fun k q hk => by
  by_cases hkq : q0 = k
  · subst hkq
    have hl : q0 < ws.length := (List.getElem?_eq_some_iff.mp ha).1
    rw [List.getElem?_set_self hl] at hk
    cases hk
    have h1 := h q0 _ ha
    show H[a]? = some (vp_cell _ _)
    have h2 : H[a]? = some (vp_cell c (N, .inl f)) := h1
    rw [h2, vp_cell_i, vp_cell_i]
    show some ({ cls := c, slots := Array.ofFn (n := N) fun j => .int (f j.val), vm := .none } : Cell) = some { cls := c, slots := Array.ofFn (n := N) fun j => .int (g j.val), vm := .none }
    rw [show (fun j : Fin N => Value.int (f j.val)) = fun j => .int (g j.val) from funext fun j => by rw [e j.val j.isLt]]
  · rw [List.getElem?_set_ne hkq] at hk
    exact h k q hk
theorem kP_arrL {D : va_G} {cl : List vw_C} {ws : va_W} {H : Heap} (h : va_P D cl ws H) (q0 : Nat) {a : Nat} {c : ClassId} {N : Nat} {f g : Nat → Int64} (ha : ws[q0]? = some (a, .inl (c, N, .inr (.inl f)))) (e : ∀ i : Nat, i < N → f i = g i) : va_P D cl (ws.set q0 (a, .inl (c, N, .inr (.inl g)))) H := fun k q hk => by
  by_cases hkq : q0 = k
  · subst hkq
    have hl : q0 < ws.length := (List.getElem?_eq_some_iff.mp ha).1
    rw [List.getElem?_set_self hl] at hk
    cases hk
    have h1 := h q0 _ ha
    show H[a]? = some (vp_cell _ _)
    have h2 : H[a]? = some (vp_cell c (N, .inr (.inl f))) := h1
    rw [h2, vp_cell_l, vp_cell_l]
    show some ({ cls := c, slots := Array.ofFn (n := N) fun j => .long (f j.val), vm := .none } : Cell) = some { cls := c, slots := Array.ofFn (n := N) fun j => .long (g j.val), vm := .none }
    rw [show (fun j : Fin N => Value.long (f j.val)) = fun j => .long (g j.val) from funext fun j => by rw [e j.val j.isLt]]
  · rw [List.getElem?_set_ne hkq] at hk
    exact h k q hk
section
variable {p : Program} {l : Launch} {e : Env} {R : Room} {s : State} {m : MethodId} {args : Array Value} {below : List Frame} {meth : Method} {c : Code} {H : Heap} {locs : List Loc} {cells slots : Nat} {Q : State → Prop}
variable {cc : ByteArray} {pc : Nat} {ls : Array Slot} {rest : List Value} {D : va_G} {cl : List vw_C} {A : Nat → Prop} {a : Nat} {ws : va_W} {H0 : Heap} {dA : Nat → ClassId}
theorem kz_newL (hx : p.tables.exec = Jvm.exec) (hb : c.code = cc) (harr : (Cond.arrayClass .long).before args s = true) (hK : va_K D cl (kT dA) s) (hP : va_P D cl ws H) (hD : va_D A ws) (hS : va_S A H0 H locs) (hA : ∀ q, H0.size ≤ q → A q) {N : Nat} (hN : N < 1000) (hcells : cells + 1 ≤ R.cells) (hslots : slots + N ≤ R.slots) (hdg : decode cc pc = .ok (.newarray .long, 2))
    (kk : ∀ (q : Nat) (H1 : Heap), va_P D cl (ws ++ [(q, .inl (dA 1, N, .inr (.inl (fun _ => 0))))]) H1 → va_D A (ws ++ [(q, .inl (dA 1, N, .inr (.inl (fun _ => 0))))]) → va_S A H0 H1 locs → W p l e R s m args below meth c H1 locs (cells + 1) (slots + N) Q (F0 m (pc + 2) ls (.ref q :: rest))) : W p l e R s m args below meth c H locs cells slots Q (F0 m pc ls (.int (iZ (N : Int)) :: rest)) := by
  have hT := iZ_toInt (z := (N : Int)) ⟨by omega, by omega⟩
  refine va_newa (atype := .long) (ty := .long) (a0 := (N, .inr (.inl (fun _ => 0)))) hx hb harr rfl hK hP hD hS hA (fun cA => rfl) (fun q => by rw [Int32.lt_iff_toInt_lt, hT] at q; exact absurd q (by rw [show (0 : Int32).toInt = 0 from rfl]; omega)) (N' := N) (by rw [iZ_cl ⟨by omega, by omega⟩]; rfl) (by show N * 8 ≤ 536870912; omega) hcells hslots hdg (fun q cA H1 hK1 hP1 hD1 hS1 => ?_)
  have e1 : s.vm.findClass ("[" ++ FieldType.long.toString) = some (dA 1) := (hK.2 1 _ rfl).2
  have e2 : s.vm.findClass ("[" ++ FieldType.long.toString) = some cA := (hK1.2 4 _ rfl).2
  have e3 : cA = dA 1 := Option.some.inj (e2.symm.trans e1)
  subst e3
  exact kk q H1 hP1 hD1 hS1
end
theorem kW_D0 {b v : Nat} {dA : Nat → ClassId} {g : Nat → Int} {tm : Int32} {n : Nat} {sz : Nat} (h : b ≠ v) (hv : sz ≤ v) : va_D (kA0 b sz) (kW b v dA g tm n) := (kW_D (sz := sz) h).weaken (fun k p hp z => by
  rcases z with z | z | z
  · exact Or.inl z
  · exact Or.inr (by rw [z]; exact hv)
  · exact Or.inr z)
/-- behind a call that works on the last cell b of a world and makes others -/
theorem kB_join {D : va_G} {cl : List vw_C} {X w9 : va_W} {b : Nat} {e : va_E} {A0 : Nat → Prop} {H H1 : Heap} (hP : va_P D cl (X ++ [(b, e)]) H) (hD : va_D A0 (X ++ [(b, e)])) (hP9 : va_P D cl w9 H1) (hD9 : va_D (kA0 b H.size) w9) (hk : ∀ a : Nat, a < H.size → ¬ kA0 b H.size a → H1[a]? = H[a]?) (hN : ∀ a, H.size ≤ a → A0 a) : va_P D cl (X ++ w9) H1 ∧ va_D A0 (X ++ w9) := by
  have hl : ∀ {k : Nat} {q : Nat × va_E}, X[k]? = some q → (X ++ [(b, e)])[k]? = some q := fun {k q} h => by
    rw [List.getElem?_append_left (List.getElem?_eq_some_iff.mp h).1]; exact h
  have hb : (X ++ [(b, e)])[X.length]? = some (b, e) := by
    rw [List.getElem?_append_right (Nat.le_refl _), Nat.sub_self]; rfl
  have hne : ∀ (k : Nat) (q : Nat × va_E), X[k]? = some q → q.1 ≠ b := fun k q h z => by
    have h1 := hD.1 k X.length q (b, e) (hl h) hb z
    have h2 := (List.getElem?_eq_some_iff.mp h).1
    omega
  have hlt : ∀ (k : Nat) (q : Nat × va_E), X[k]? = some q → q.1 < H.size := fun k q h => (hP k q (hl h)).lt
  have hA : A0 b := hD.2 X.length (b, e) hb
  refine ⟨va_P.app (fun k q h => (hP k q (hl h)).kept (hk _ (hlt k q h) (fun z => z.elim (hne k q h) (fun y => absurd (hlt k q h) (Nat.not_lt.mpr y))))) hP9, va_D.app ⟨fun i j p q hi hj z => hD.1 i j p q (hl hi) (hl hj) z, fun i p hi => hD.2 i p (hl hi)⟩ (hD9.weaken (fun k p hp z => z.elim (fun y => by rw [y]; exact hA) (hN _))) (fun i j x y hx hy z => ?_)⟩
  rcases hD9.2 j y hy with h | h
  · exact hne i x hx (by rw [z, h])
  · exact absurd (hlt i x hx) (by rw [z]; exact Nat.not_lt.mpr h)
def qI (a : List Nat) : Nat → Nat := fun i => a.getD i 0
/-- a new object of the class -/
def gX0 (dC : Nat → ClassId) (dI : Nat → Nat → Nat) (dA : Nat → ClassId) (k : Nat → Nat) (q0 sz : Nat) (H : Heap) : Prop := ∃ q : Nat → Nat, q 0 = q0 ∧ kQI q k ∧ (∀ i : Nat, i < 9 → kA0 q0 sz (q i)) ∧ gX dC dI dA q sg0 H
theorem kXD_QI {A : Nat → Prop} {k q : Nat → Nat} {dA : Nat → ClassId} {σ : Nat → Nat → Int} {tb : Nat → Int32} {tn tm : Int32} (hD : va_D A (kX q dA σ tb tn tm)) (hA : ∀ a, A a → k 0 ≤ a) : kQI q k ∧ ∀ i : Nat, i < 9 → A (q i) := by
  have hg : ∀ i : Nat, i < 9 → ∃ e2, (kX q dA σ tb tn tm)[i]? = some (q i, e2) := fun i hi => by
    have hl : (kX q dA σ tb tn tm)[i]? = some ((kX q dA σ tb tn tm)[i]'hi) := List.getElem?_eq_getElem hi
    obtain ⟨-, a2⟩ := kX_at hl
    exact ⟨((kX q dA σ tb tn tm)[i]'hi).2, by rw [hl, ← a2]⟩
  refine ⟨⟨fun i j hi hj h => ?_, fun i hi => ?_⟩, fun i hi => ?_⟩
  · obtain ⟨e1, g1⟩ := hg i hi
    obtain ⟨e2, g2⟩ := hg j hj
    exact hD.1 i j _ _ g1 g2 h
  · obtain ⟨e1, g1⟩ := hg i hi
    exact hA _ (hD.2 i _ g1)
  · obtain ⟨e1, g1⟩ := hg i hi
    exact hD.2 i _ g1
theorem kG_fit {g : Nat → Int} (h : kG g) : sb_Fit (fun j => iZ (g j)) := fun j => kfitb (h j)
theorem kfit_G {tb : Nat → Int32} (h : sb_Fit tb) : kG (fun j => (tb j).toInt) := fun j => by
  have h1 := h j
  simp only [fits, Bool.and_eq_true, decide_eq_true_eq, Int32.le_iff_toInt_le, show (-128 : Int32).toInt = -128 from by decide, show (127 : Int32).toInt = 127 from by decide] at h1
  show -128 ≤ (tb j).toInt ∧ (tb j).toInt < 128
  omega
theorem gX_g {dC : Nat → ClassId} {dI : Nat → Nat → Nat} {dA : Nat → ClassId} {q : Nat → Nat} {σ : Nat → Nat → Int} {H : Heap} (h : gX dC dI dA q σ H) : ∃ (g : Nat → Int) (tm : Int32) (n : Nat), n ≤ 16 ∧ kG g ∧ (tm = 0 ∨ tm = 1) ∧ va_P (dC, dI) vwCl (kX q dA σ (fun j => iZ (g j)) (iZ (n : Int)) tm) H := by
  obtain ⟨tb, tn, tm, h1, h2, h3, h4⟩ := h
  refine ⟨fun j => (tb j).toInt, tm, tn, h1, kfit_G h2, h3, ?_⟩
  rw [show (fun j => iZ ((tb j).toInt)) = tb from funext fun j => Int32.ofInt_toInt (tb j), ← nI_iZ]
  exact h4
theorem gX_of {dC : Nat → ClassId} {dI : Nat → Nat → Nat} {dA : Nat → ClassId} {q : Nat → Nat} {σ : Nat → Nat → Int} {H : Heap} {g : Nat → Int} {tm : Int32} {n : Nat} (hn : n ≤ 16) (hg : kG g) (htm : tm = 0 ∨ tm = 1) (hP : va_P (dC, dI) vwCl (kX q dA σ (fun j => iZ (g j)) (iZ (n : Int)) tm) H) : gX dC dI dA q σ H := ⟨_, n, tm, hn, kG_fit hg, htm, by rw [nI_iZ]; exact hP⟩
theorem kX_join {dC : Nat → ClassId} {dI : Nat → Nat → Nat} {dA : Nat → ClassId} {q k : Nat → Nat} (hq : kQI q k) {σ : Nat → Nat → Int} {tb : Nat → Int32} {tn tm tm' : Int32} {g' : Nat → Int} {n' : Nat} {H H1 : Heap} (hP : va_P (dC, dI) vwCl (kX q dA σ tb tn tm) H) (h9 : va_P (dC, dI) vwCl (kW (q 7) (q 8) dA g' tm' n') H1) (hk : ∀ a : Nat, a < H.size → ¬ kAB (q 7) (q 8) H.size a → H1[a]? = H[a]?) : va_P (dC, dI) vwCl (kX q dA σ (fun j => iZ (g' j)) (iZ (n' : Int)) tm') H1 := by
  have key : ∀ i : Nat, i < 7 → ∀ p : Nat × va_E, (kX q dA σ tb tn tm)[i]? = some p → va_at (dC, dI) vwCl p H1 := fun i hi p hp => by
    have h1 := hP i p hp
    refine h1.kept (hk _ h1.lt (fun z => ?_))
    have e := (kX_at hp).2
    rcases z with z | z | z
    · have := hq.1 i 7 (by omega) (by decide) (by rw [← e, z]); omega
    · have := hq.1 i 8 (by omega) (by decide) (by rw [← e, z]); omega
    · exact absurd h1.lt (Nat.not_lt.mpr z)
  intro i p hp
  have hl : i < 9 := (List.getElem?_eq_some_iff.mp hp).1
  match i, hl, hp with
  | 0, _, hp => exact key 0 (by decide) p hp
  | 1, _, hp => exact key 1 (by decide) p hp
  | 2, _, hp => exact key 2 (by decide) p hp
  | 3, _, hp => exact key 3 (by decide) p hp
  | 4, _, hp => exact key 4 (by decide) p hp
  | 5, _, hp => exact key 5 (by decide) p hp
  | 6, _, hp => exact key 6 (by decide) p hp
  | 7, _, hp => exact h9 0 p hp
  | 8, _, hp => exact h9 1 p hp
theorem kA_AB {q : Nat → Nat} {sz sz' : Nat} (h : sz ≤ sz') : ∀ a, kAB (q 7) (q 8) sz' a → kA q sz a := fun a z => by
  rcases z with z | z | z
  · exact Or.inl ⟨7, by decide, z⟩
  · exact Or.inl ⟨8, by decide, z⟩
  · exact Or.inr (Nat.le_trans h z)
/-- the class's object, its builder holding the text of z -/
def gXt (dC : Nat → ClassId) (dI : Nat → Nat → Nat) (dA : Nat → ClassId) (q : Nat → Nat) (σ : Nat → Nat → Int) (z : Int) (H : Heap) : Prop := ∃ (g : Nat → Int) (tm : Int32), kG g ∧ (tm = 0 ∨ tm = 1) ∧ (∀ j, j < TL z → g j = TX z j) ∧ va_P (dC, dI) vwCl (kX q dA σ (fun j => iZ (g j)) (iZ ((TL z : Nat) : Int)) tm) H
def dv (a k : Nat) : Nat := a / 10 ^ k
theorem kdiv_pos {a k : Nat} (h1 : 1 ≤ k) (h : k < ndg a) : 0 < dv a k := Nat.div_pos (ndg_ge a k h1 h) (Nat.pow_pos (by decide))
theorem kdiv_0 (a : Nat) : dv a (ndg a) = 0 := Nat.div_eq_of_lt (ndg_lt a)
theorem kdiv_s (a k : Nat) : dv a (k + 1) = dv a k / 10 := by unfold dv; rw [Nat.pow_succ, Nat.div_div_eq_div_mul]
theorem kdiv_le (a k : Nat) : dv a k ≤ a := Nat.div_le_self _ _
theorem tq_10 (n : Nat) : tq (n : Int) 10 = ((n / 10 : Nat) : Int) := by unfold tq; split <;> omega
theorem TX_rev {z : Int} {g : Nat → Int} (hz : ¬ z < 0) (h : ∀ j, j < ndg z.natAbs → g j = 48 + ((dv z.natAbs j % 10 : Nat) : Int)) : ∀ j, j < TL z → rvK g (ndg z.natAbs) 0 j = TX z j := fun j hj => by
  have e : TL z = ndg z.natAbs := by unfold TL; rw [if_neg hz]; rfl
  rw [e] at hj
  unfold rvK TX
  rw [if_pos ⟨Nat.zero_le _, by omega⟩, if_neg (fun q => hz q.1), h _ (by omega), e]
  rfl
theorem TX_revn {z : Int} {g : Nat → Int} (hz : z < 0) (h : ∀ j, j < ndg z.natAbs → g j = 48 + ((dv z.natAbs j % 10 : Nat) : Int)) : ∀ j, j < TL z → rvK (gu g (ndg z.natAbs) 45) (ndg z.natAbs + 1) 0 j = TX z j := fun j hj => by
  have e : TL z = ndg z.natAbs + 1 := by unfold TL; rw [if_pos hz]
  rw [e] at hj
  unfold rvK TX gu
  rw [if_pos ⟨Nat.zero_le _, by omega⟩, e]
  by_cases h0 : j = 0
  · subst h0
    rw [if_pos (by omega), if_pos ⟨hz, rfl⟩]
  · rw [if_neg (by omega), if_neg (fun q => h0 q.2), show ndg z.natAbs + 1 - 1 - j = ndg z.natAbs - j by omega, h _ (by omega)]
    rfl
abbrev ww_X1_init : List Cond := .code yX1_init cX1_init 2 none :: gT
set_option maxHeartbeats 4000000 in
set_option maxRecDepth 100000 in
theorem c_X1_init (l : Launch) (dC : Nat → ClassId) (dI : Nat → Nat → Nat) (dA : Nat → ClassId) (k : Nat → Nat) (q0 : Nat) (H0 : Heap) (hP : va_P (dC, dI) vwCl [(q0, .inr (4, [.null, .null, .null, .null, .null, .null, .null, .int 0]))] H0) (hk : k 0 ≤ q0) : Met l yX1_init ww_X1_init ({ frames := 3, cells := 8, slots := 44, locals := 101 }) (va_Pc [.ref q0] (fun U => U.heap = H0 ∧ kMJ dC dI dA k U)) (kQ2 none (gX0 dC dI dA k q0 H0.size) (kA0 q0 H0.size)) 8 44 (kA0 q0 H0.size) := by
  refine Met.ofW (cc := cX1_init) (maxL := 2) (ret := none) (by decide) rfl ?_
  intro p e s m args below meth c s₁ B hml hv
  obtain ⟨rfl, hH, hMJ⟩ := hv
  subst hH
  have hM := hMJ.1
  have hD : va_D (kA0 q0 s.heap.size) [(q0, .inr (4, [.null, .null, .null, .null, .null, .null, .null, .int 0]))] := kD1
  have hS : va_S (kA0 q0 s.heap.size) s.heap s.heap [] := va_S.rf
  have hAN : ∀ a, kA0 q0 s.heap.size a → k 0 ≤ a := fun a h => h.elim (fun z => by rw [z]; exact hk) (fun z => Nat.le_trans hM.2.1.1 z)
  have hx := B.exec
  have hb := B.bytes
  have hr9 := B.returns
  have hin : meth.name = "<init>" := (name_of_methodNamed B.named B.method).1
  have hts := atoms_spec (ws := ww_X1_init) B.pre
  have hown : s.vm.findClass RX1 = some m.cls := findClass_of_methodNamed B.named
  have hlocks := B.notSynchronized
  have hl := lv_entry ([.ref q0]) (n := 2) (Nat.le_of_ble_eq_true rfl)
  rw [lg_entry_eq]
  generalize (lg_sl ([.ref q0]) ++ List.replicate (2 - (lg_sl ([.ref q0])).length) Slot.unset).toArray = ls at hl ⊢
  have hl : lv_has ls 2 [(0, .ref q0)] := hl
  refine lv_aload_n hx hb dX1_init_0 rfl (lv_at hl 0 rfl) ?_
  refine W.objInit hx hb hown (hts _ (List.mem_cons_of_mem _ mw68)) (hts _ (List.mem_cons_of_mem _ mw69)) (hts _ (List.mem_cons_of_mem _ mw70)) rfl (by rw [hml]; exact hl.1) rfl dX1_init_1 (Nat.le_of_ble_eq_true rfl) (Nat.le_of_ble_eq_true rfl) ?_
  refine W.eq (g2 := F0 m 4 ls []) rfl ?_
  refine lv_aload_n hx hb dX1_init_4 rfl (lv_at hl 0 rfl) ?_
  refine lv_iconst (v := iZ 4) hx hb dX1_init_5 rfl ?_
  refine kz_newL (N := 4) hx hb (hts _ (List.mem_cons_of_mem _ mw94)) hM.1 hP hD hS (fun q h => Or.inr h) (by decide) (Nat.le_of_ble_eq_true rfl) (Nat.le_of_ble_eq_true rfl) dX1_init_6 (fun v_1 H hP hD hS => ?_)
  have hP : va_P (dC, dI) vwCl ([(q0, .inr (4, [.null, .null, .null, .null, .null, .null, .null, .int 0])), (v_1, .inl (dA 1, 4, .inr (.inl (fun _ => 0))))] : va_W) _ := hP
  have hD : va_D (kA0 q0 s.heap.size) ([(q0, .inr (4, [.null, .null, .null, .null, .null, .null, .null, .int 0])), (v_1, .inl (dA 1, 4, .inr (.inl (fun _ => 0))))] : va_W) := hD
  refine va_putF (D := (dC, dI)) (ci := 4) (v := .ref v_1) (ty := .array .long) (C := RX1) (T := TX1) (N := 8) hx hb hts (fun w h => List.mem_cons_of_mem _ (gF_0_in h)) tyX1 tyX1_ok nmX1 hown hM.1 hP hD hS 0 rfl rfl 0 (by decide) (hts _ (List.mem_cons_of_mem _ mw97)) (fun _ h9 => h9) rfl hin rfl (by decide +kernel) rfl rfl (Nat.le_of_ble_eq_true rfl) dX1_init_8 (fun H locs hP hD hS => ?_)
  have hP : va_P (dC, dI) vwCl ([(q0, .inr (4, [.ref v_1, .null, .null, .null, .null, .null, .null, .int 0])), (v_1, .inl (dA 1, 4, .inr (.inl (fun _ => 0))))] : va_W) _ := hP
  have hD : va_D (kA0 q0 s.heap.size) ([(q0, .inr (4, [.ref v_1, .null, .null, .null, .null, .null, .null, .int 0])), (v_1, .inl (dA 1, 4, .inr (.inl (fun _ => 0))))] : va_W) := hD
  refine lv_aload_n hx hb dX1_init_11 rfl (lv_at hl 0 rfl) ?_
  refine lv_iconst (v := iZ 4) hx hb dX1_init_12 rfl ?_
  refine kz_newI (N := 4) hx hb (hts _ (List.mem_cons_of_mem _ mw95)) hM.1 hP hD hS (fun q h => Or.inr h) (by decide) (Nat.le_of_ble_eq_true rfl) (Nat.le_of_ble_eq_true rfl) dX1_init_13 (fun v_2 H hP hD hS => ?_)
  have hP : va_P (dC, dI) vwCl ([(q0, .inr (4, [.ref v_1, .null, .null, .null, .null, .null, .null, .int 0])), (v_1, .inl (dA 1, 4, .inr (.inl (fun _ => 0)))), (v_2, .inl (dA 0, 4, .inl (fun _ => 0)))] : va_W) _ := hP
  have hD : va_D (kA0 q0 s.heap.size) ([(q0, .inr (4, [.ref v_1, .null, .null, .null, .null, .null, .null, .int 0])), (v_1, .inl (dA 1, 4, .inr (.inl (fun _ => 0)))), (v_2, .inl (dA 0, 4, .inl (fun _ => 0)))] : va_W) := hD
  refine va_putF (D := (dC, dI)) (ci := 4) (v := .ref v_2) (ty := .array .int) (C := RX1) (T := TX1) (N := 8) hx hb hts (fun w h => List.mem_cons_of_mem _ (gF_0_in h)) tyX1 tyX1_ok nmX1 hown hM.1 hP hD hS 0 rfl rfl 1 (by decide) (hts _ (List.mem_cons_of_mem _ mw98)) (fun _ h9 => h9) rfl hin rfl (by decide +kernel) rfl rfl (Nat.le_of_ble_eq_true rfl) dX1_init_15 (fun H locs hP hD hS => ?_)
  have hP : va_P (dC, dI) vwCl ([(q0, .inr (4, [.ref v_1, .ref v_2, .null, .null, .null, .null, .null, .int 0])), (v_1, .inl (dA 1, 4, .inr (.inl (fun _ => 0)))), (v_2, .inl (dA 0, 4, .inl (fun _ => 0)))] : va_W) _ := hP
  have hD : va_D (kA0 q0 s.heap.size) ([(q0, .inr (4, [.ref v_1, .ref v_2, .null, .null, .null, .null, .null, .int 0])), (v_1, .inl (dA 1, 4, .inr (.inl (fun _ => 0)))), (v_2, .inl (dA 0, 4, .inl (fun _ => 0)))] : va_W) := hD
  refine lv_aload_n hx hb dX1_init_18 rfl (lv_at hl 0 rfl) ?_
  refine lv_iconst (v := iZ 4) hx hb dX1_init_19 rfl ?_
  refine kz_newI (N := 4) hx hb (hts _ (List.mem_cons_of_mem _ mw95)) hM.1 hP hD hS (fun q h => Or.inr h) (by decide) (Nat.le_of_ble_eq_true rfl) (Nat.le_of_ble_eq_true rfl) dX1_init_20 (fun v_3 H hP hD hS => ?_)
  have hP : va_P (dC, dI) vwCl ([(q0, .inr (4, [.ref v_1, .ref v_2, .null, .null, .null, .null, .null, .int 0])), (v_1, .inl (dA 1, 4, .inr (.inl (fun _ => 0)))), (v_2, .inl (dA 0, 4, .inl (fun _ => 0))), (v_3, .inl (dA 0, 4, .inl (fun _ => 0)))] : va_W) _ := hP
  have hD : va_D (kA0 q0 s.heap.size) ([(q0, .inr (4, [.ref v_1, .ref v_2, .null, .null, .null, .null, .null, .int 0])), (v_1, .inl (dA 1, 4, .inr (.inl (fun _ => 0)))), (v_2, .inl (dA 0, 4, .inl (fun _ => 0))), (v_3, .inl (dA 0, 4, .inl (fun _ => 0)))] : va_W) := hD
  refine va_putF (D := (dC, dI)) (ci := 4) (v := .ref v_3) (ty := .array .int) (C := RX1) (T := TX1) (N := 8) hx hb hts (fun w h => List.mem_cons_of_mem _ (gF_0_in h)) tyX1 tyX1_ok nmX1 hown hM.1 hP hD hS 0 rfl rfl 2 (by decide) (hts _ (List.mem_cons_of_mem _ mw99)) (fun _ h9 => h9) rfl hin rfl (by decide +kernel) rfl rfl (Nat.le_of_ble_eq_true rfl) dX1_init_22 (fun H locs hP hD hS => ?_)
  have hP : va_P (dC, dI) vwCl ([(q0, .inr (4, [.ref v_1, .ref v_2, .ref v_3, .null, .null, .null, .null, .int 0])), (v_1, .inl (dA 1, 4, .inr (.inl (fun _ => 0)))), (v_2, .inl (dA 0, 4, .inl (fun _ => 0))), (v_3, .inl (dA 0, 4, .inl (fun _ => 0)))] : va_W) _ := hP
  have hD : va_D (kA0 q0 s.heap.size) ([(q0, .inr (4, [.ref v_1, .ref v_2, .ref v_3, .null, .null, .null, .null, .int 0])), (v_1, .inl (dA 1, 4, .inr (.inl (fun _ => 0)))), (v_2, .inl (dA 0, 4, .inl (fun _ => 0))), (v_3, .inl (dA 0, 4, .inl (fun _ => 0)))] : va_W) := hD
  refine lv_aload_n hx hb dX1_init_25 rfl (lv_at hl 0 rfl) ?_
  refine lv_iconst (v := iZ 4) hx hb dX1_init_26 rfl ?_
  refine kz_newI (N := 4) hx hb (hts _ (List.mem_cons_of_mem _ mw95)) hM.1 hP hD hS (fun q h => Or.inr h) (by decide) (Nat.le_of_ble_eq_true rfl) (Nat.le_of_ble_eq_true rfl) dX1_init_27 (fun v_4 H hP hD hS => ?_)
  have hP : va_P (dC, dI) vwCl ([(q0, .inr (4, [.ref v_1, .ref v_2, .ref v_3, .null, .null, .null, .null, .int 0])), (v_1, .inl (dA 1, 4, .inr (.inl (fun _ => 0)))), (v_2, .inl (dA 0, 4, .inl (fun _ => 0))), (v_3, .inl (dA 0, 4, .inl (fun _ => 0))), (v_4, .inl (dA 0, 4, .inl (fun _ => 0)))] : va_W) _ := hP
  have hD : va_D (kA0 q0 s.heap.size) ([(q0, .inr (4, [.ref v_1, .ref v_2, .ref v_3, .null, .null, .null, .null, .int 0])), (v_1, .inl (dA 1, 4, .inr (.inl (fun _ => 0)))), (v_2, .inl (dA 0, 4, .inl (fun _ => 0))), (v_3, .inl (dA 0, 4, .inl (fun _ => 0))), (v_4, .inl (dA 0, 4, .inl (fun _ => 0)))] : va_W) := hD
  refine va_putF (D := (dC, dI)) (ci := 4) (v := .ref v_4) (ty := .array .int) (C := RX1) (T := TX1) (N := 8) hx hb hts (fun w h => List.mem_cons_of_mem _ (gF_0_in h)) tyX1 tyX1_ok nmX1 hown hM.1 hP hD hS 0 rfl rfl 3 (by decide) (hts _ (List.mem_cons_of_mem _ mw100)) (fun _ h9 => h9) rfl hin rfl (by decide +kernel) rfl rfl (Nat.le_of_ble_eq_true rfl) dX1_init_29 (fun H locs hP hD hS => ?_)
  have hP : va_P (dC, dI) vwCl ([(q0, .inr (4, [.ref v_1, .ref v_2, .ref v_3, .ref v_4, .null, .null, .null, .int 0])), (v_1, .inl (dA 1, 4, .inr (.inl (fun _ => 0)))), (v_2, .inl (dA 0, 4, .inl (fun _ => 0))), (v_3, .inl (dA 0, 4, .inl (fun _ => 0))), (v_4, .inl (dA 0, 4, .inl (fun _ => 0)))] : va_W) _ := hP
  have hD : va_D (kA0 q0 s.heap.size) ([(q0, .inr (4, [.ref v_1, .ref v_2, .ref v_3, .ref v_4, .null, .null, .null, .int 0])), (v_1, .inl (dA 1, 4, .inr (.inl (fun _ => 0)))), (v_2, .inl (dA 0, 4, .inl (fun _ => 0))), (v_3, .inl (dA 0, 4, .inl (fun _ => 0))), (v_4, .inl (dA 0, 4, .inl (fun _ => 0)))] : va_W) := hD
  refine lv_aload_n hx hb dX1_init_32 rfl (lv_at hl 0 rfl) ?_
  refine lv_iconst (v := iZ 4) hx hb dX1_init_33 rfl ?_
  refine kz_newL (N := 4) hx hb (hts _ (List.mem_cons_of_mem _ mw94)) hM.1 hP hD hS (fun q h => Or.inr h) (by decide) (Nat.le_of_ble_eq_true rfl) (Nat.le_of_ble_eq_true rfl) dX1_init_34 (fun v_5 H hP hD hS => ?_)
  have hP : va_P (dC, dI) vwCl ([(q0, .inr (4, [.ref v_1, .ref v_2, .ref v_3, .ref v_4, .null, .null, .null, .int 0])), (v_1, .inl (dA 1, 4, .inr (.inl (fun _ => 0)))), (v_2, .inl (dA 0, 4, .inl (fun _ => 0))), (v_3, .inl (dA 0, 4, .inl (fun _ => 0))), (v_4, .inl (dA 0, 4, .inl (fun _ => 0))), (v_5, .inl (dA 1, 4, .inr (.inl (fun _ => 0))))] : va_W) _ := hP
  have hD : va_D (kA0 q0 s.heap.size) ([(q0, .inr (4, [.ref v_1, .ref v_2, .ref v_3, .ref v_4, .null, .null, .null, .int 0])), (v_1, .inl (dA 1, 4, .inr (.inl (fun _ => 0)))), (v_2, .inl (dA 0, 4, .inl (fun _ => 0))), (v_3, .inl (dA 0, 4, .inl (fun _ => 0))), (v_4, .inl (dA 0, 4, .inl (fun _ => 0))), (v_5, .inl (dA 1, 4, .inr (.inl (fun _ => 0))))] : va_W) := hD
  refine va_putF (D := (dC, dI)) (ci := 4) (v := .ref v_5) (ty := .array .long) (C := RX1) (T := TX1) (N := 8) hx hb hts (fun w h => List.mem_cons_of_mem _ (gF_0_in h)) tyX1 tyX1_ok nmX1 hown hM.1 hP hD hS 0 rfl rfl 4 (by decide) (hts _ (List.mem_cons_of_mem _ mw101)) (fun _ h9 => h9) rfl hin rfl (by decide +kernel) rfl rfl (Nat.le_of_ble_eq_true rfl) dX1_init_36 (fun H locs hP hD hS => ?_)
  have hP : va_P (dC, dI) vwCl ([(q0, .inr (4, [.ref v_1, .ref v_2, .ref v_3, .ref v_4, .ref v_5, .null, .null, .int 0])), (v_1, .inl (dA 1, 4, .inr (.inl (fun _ => 0)))), (v_2, .inl (dA 0, 4, .inl (fun _ => 0))), (v_3, .inl (dA 0, 4, .inl (fun _ => 0))), (v_4, .inl (dA 0, 4, .inl (fun _ => 0))), (v_5, .inl (dA 1, 4, .inr (.inl (fun _ => 0))))] : va_W) _ := hP
  have hD : va_D (kA0 q0 s.heap.size) ([(q0, .inr (4, [.ref v_1, .ref v_2, .ref v_3, .ref v_4, .ref v_5, .null, .null, .int 0])), (v_1, .inl (dA 1, 4, .inr (.inl (fun _ => 0)))), (v_2, .inl (dA 0, 4, .inl (fun _ => 0))), (v_3, .inl (dA 0, 4, .inl (fun _ => 0))), (v_4, .inl (dA 0, 4, .inl (fun _ => 0))), (v_5, .inl (dA 1, 4, .inr (.inl (fun _ => 0))))] : va_W) := hD
  refine lv_aload_n hx hb dX1_init_39 rfl (lv_at hl 0 rfl) ?_
  refine lv_iconst (v := iZ 4) hx hb dX1_init_40 rfl ?_
  refine kz_newI (N := 4) hx hb (hts _ (List.mem_cons_of_mem _ mw95)) hM.1 hP hD hS (fun q h => Or.inr h) (by decide) (Nat.le_of_ble_eq_true rfl) (Nat.le_of_ble_eq_true rfl) dX1_init_41 (fun v_6 H hP hD hS => ?_)
  have hP : va_P (dC, dI) vwCl ([(q0, .inr (4, [.ref v_1, .ref v_2, .ref v_3, .ref v_4, .ref v_5, .null, .null, .int 0])), (v_1, .inl (dA 1, 4, .inr (.inl (fun _ => 0)))), (v_2, .inl (dA 0, 4, .inl (fun _ => 0))), (v_3, .inl (dA 0, 4, .inl (fun _ => 0))), (v_4, .inl (dA 0, 4, .inl (fun _ => 0))), (v_5, .inl (dA 1, 4, .inr (.inl (fun _ => 0)))), (v_6, .inl (dA 0, 4, .inl (fun _ => 0)))] : va_W) _ := hP
  have hD : va_D (kA0 q0 s.heap.size) ([(q0, .inr (4, [.ref v_1, .ref v_2, .ref v_3, .ref v_4, .ref v_5, .null, .null, .int 0])), (v_1, .inl (dA 1, 4, .inr (.inl (fun _ => 0)))), (v_2, .inl (dA 0, 4, .inl (fun _ => 0))), (v_3, .inl (dA 0, 4, .inl (fun _ => 0))), (v_4, .inl (dA 0, 4, .inl (fun _ => 0))), (v_5, .inl (dA 1, 4, .inr (.inl (fun _ => 0)))), (v_6, .inl (dA 0, 4, .inl (fun _ => 0)))] : va_W) := hD
  refine va_putF (D := (dC, dI)) (ci := 4) (v := .ref v_6) (ty := .array .int) (C := RX1) (T := TX1) (N := 8) hx hb hts (fun w h => List.mem_cons_of_mem _ (gF_0_in h)) tyX1 tyX1_ok nmX1 hown hM.1 hP hD hS 0 rfl rfl 5 (by decide) (hts _ (List.mem_cons_of_mem _ mw102)) (fun _ h9 => h9) rfl hin rfl (by decide +kernel) rfl rfl (Nat.le_of_ble_eq_true rfl) dX1_init_43 (fun H locs hP hD hS => ?_)
  have hP : va_P (dC, dI) vwCl ([(q0, .inr (4, [.ref v_1, .ref v_2, .ref v_3, .ref v_4, .ref v_5, .ref v_6, .null, .int 0])), (v_1, .inl (dA 1, 4, .inr (.inl (fun _ => 0)))), (v_2, .inl (dA 0, 4, .inl (fun _ => 0))), (v_3, .inl (dA 0, 4, .inl (fun _ => 0))), (v_4, .inl (dA 0, 4, .inl (fun _ => 0))), (v_5, .inl (dA 1, 4, .inr (.inl (fun _ => 0)))), (v_6, .inl (dA 0, 4, .inl (fun _ => 0)))] : va_W) _ := hP
  have hD : va_D (kA0 q0 s.heap.size) ([(q0, .inr (4, [.ref v_1, .ref v_2, .ref v_3, .ref v_4, .ref v_5, .ref v_6, .null, .int 0])), (v_1, .inl (dA 1, 4, .inr (.inl (fun _ => 0)))), (v_2, .inl (dA 0, 4, .inl (fun _ => 0))), (v_3, .inl (dA 0, 4, .inl (fun _ => 0))), (v_4, .inl (dA 0, 4, .inl (fun _ => 0))), (v_5, .inl (dA 1, 4, .inr (.inl (fun _ => 0)))), (v_6, .inl (dA 0, 4, .inl (fun _ => 0)))] : va_W) := hD
  refine lv_aload_n hx hb dX1_init_46 rfl (lv_at hl 0 rfl) ?_
  refine va_new (ci := 1) (fs := [.null, .int 0, .int 0, .int 0]) (C := RJ4) (T := TJ4) (N := 4) hx hb hts (fun w h => List.mem_cons_of_mem _ (gF_3_in h)) tyJ4 tyJ4_ok hown (hts _ (List.mem_cons_of_mem _ mw71)) (hts _ (List.mem_cons_of_mem _ mw72)) (hts _ (List.mem_cons_of_mem _ mw44)) hM.1 hP hD hS (fun q h => Or.inr h) rfl (fun j hj => by rcases (show j = 0 ∨ j = 1 ∨ j = 2 ∨ j = 3 by omega) with rfl | rfl | rfl | rfl <;> rfl) (Nat.le_of_ble_eq_true rfl) (Nat.le_of_ble_eq_true rfl) dX1_init_47 (fun b9 H hP hD hS => ?_)
  have hP : va_P (dC, dI) vwCl ([(q0, .inr (4, [.ref v_1, .ref v_2, .ref v_3, .ref v_4, .ref v_5, .ref v_6, .null, .int 0])), (v_1, .inl (dA 1, 4, .inr (.inl (fun _ => 0)))), (v_2, .inl (dA 0, 4, .inl (fun _ => 0))), (v_3, .inl (dA 0, 4, .inl (fun _ => 0))), (v_4, .inl (dA 0, 4, .inl (fun _ => 0))), (v_5, .inl (dA 1, 4, .inr (.inl (fun _ => 0)))), (v_6, .inl (dA 0, 4, .inl (fun _ => 0))), (b9, .inr (1, [.null, .int 0, .int 0, .int 0]))] : va_W) _ := hP
  have hD : va_D (kA0 q0 s.heap.size) ([(q0, .inr (4, [.ref v_1, .ref v_2, .ref v_3, .ref v_4, .ref v_5, .ref v_6, .null, .int 0])), (v_1, .inl (dA 1, 4, .inr (.inl (fun _ => 0)))), (v_2, .inl (dA 0, 4, .inl (fun _ => 0))), (v_3, .inl (dA 0, 4, .inl (fun _ => 0))), (v_4, .inl (dA 0, 4, .inl (fun _ => 0))), (v_5, .inl (dA 1, 4, .inr (.inl (fun _ => 0)))), (v_6, .inl (dA 0, 4, .inl (fun _ => 0))), (b9, .inr (1, [.null, .int 0, .int 0, .int 0]))] : va_W) := hD
  refine lv_dup hx hb dX1_init_50 rfl ?_
  have hbA : kA0 q0 s.heap.size b9 := hD.2 7 _ rfl
  refine kc2 (va_runI (As := []) (rest := [.ref b9, .ref q0]) ⟨hx, hb, hml, hown, hts⟩ (c_J4_init_da8c8 l dC dI dA k b9 _ (hP.sub [7] rfl) (hAN _ (hD.2 7 _ rfl))) (cwI 0 hts (kg_G rfl mw75) rfl rfl rfl (hts _ (List.mem_cons_of_mem _ mw44)) (hts _ (List.mem_cons_of_mem _ mw73)) (hts _ (List.mem_cons_of_mem _ mw74)) rfl (by decide +kernel) ⟨Nat.le_of_ble_eq_true rfl, Nat.le_of_ble_eq_true rfl⟩) ⟨fun a U g mk q => ⟨q.1, q.2.1, kMJ_call q.2.2⟩, fun U hU hW => ⟨rfl, hU, kMJ_kept hMJ hS hAN hU hW⟩⟩ rfl rfl hl.1 rfl (lv_room (Nat.le_of_ble_eq_true rfl)) dX1_init_51 ⟨Nat.le_of_ble_eq_true rfl, Nat.le_of_ble_eq_true rfl⟩) hS (fun a _ h => h.elim (fun z => by rw [z]; exact hbA) (fun z => Or.inr (Nat.le_trans hS.1 z))) (fun a h => h.elim (fun z => by rw [z]; exact hbA) (fun z => Or.inr (Nat.le_trans hS.1 z))) (fun H1 locs hG hz9 hk9 hS9 => ?_)
  obtain ⟨v9, hv1, hv2, hP9⟩ := hG
  obtain ⟨hP9, hD9⟩ := kB_join (X := [(q0, .inr (4, [.ref v_1, .ref v_2, .ref v_3, .ref v_4, .ref v_5, .ref v_6, .null, .int 0])), (v_1, .inl (dA 1, 4, .inr (.inl (fun _ => 0)))), (v_2, .inl (dA 0, 4, .inl (fun _ => 0))), (v_3, .inl (dA 0, 4, .inl (fun _ => 0))), (v_4, .inl (dA 0, 4, .inl (fun _ => 0))), (v_5, .inl (dA 1, 4, .inr (.inl (fun _ => 0)))), (v_6, .inl (dA 0, 4, .inl (fun _ => 0)))]) hP hD hP9 (kW_D0 hv2 hv1) hk9 (fun a h => Or.inr (Nat.le_trans hS.1 h))
  have hP : va_P (dC, dI) vwCl ([(q0, .inr (4, [.ref v_1, .ref v_2, .ref v_3, .ref v_4, .ref v_5, .ref v_6, .null, .int 0])), (v_1, .inl (dA 1, 4, .inr (.inl (fun _ => 0)))), (v_2, .inl (dA 0, 4, .inl (fun _ => 0))), (v_3, .inl (dA 0, 4, .inl (fun _ => 0))), (v_4, .inl (dA 0, 4, .inl (fun _ => 0))), (v_5, .inl (dA 1, 4, .inr (.inl (fun _ => 0)))), (v_6, .inl (dA 0, 4, .inl (fun _ => 0))), (b9, .inr (1, [.ref v9, .int 0, .int 0, .int (iZ ((0 : Nat) : Int))])), (v9, .inl (dA 2, 16, .inl (fun j => iZ ((fun _ => (0 : Int)) j))))] : va_W) H1 := hP9
  have hD : va_D (kA0 q0 s.heap.size) ([(q0, .inr (4, [.ref v_1, .ref v_2, .ref v_3, .ref v_4, .ref v_5, .ref v_6, .null, .int 0])), (v_1, .inl (dA 1, 4, .inr (.inl (fun _ => 0)))), (v_2, .inl (dA 0, 4, .inl (fun _ => 0))), (v_3, .inl (dA 0, 4, .inl (fun _ => 0))), (v_4, .inl (dA 0, 4, .inl (fun _ => 0))), (v_5, .inl (dA 1, 4, .inr (.inl (fun _ => 0)))), (v_6, .inl (dA 0, 4, .inl (fun _ => 0))), (b9, .inr (1, [.ref v9, .int 0, .int 0, .int (iZ ((0 : Nat) : Int))])), (v9, .inl (dA 2, 16, .inl (fun j => iZ ((fun _ => (0 : Int)) j))))] : va_W) := hD9
  clear hP9 hD9 hk9 hz9
  generalize H1 = H at hP hS9 ⊢
  have hS := hS9
  refine va_putF (D := (dC, dI)) (ci := 4) (v := .ref b9) (ty := .object "java/lang/StringBuilder") (C := RX1) (T := TX1) (N := 8) hx hb hts (fun w h => List.mem_cons_of_mem _ (gF_0_in h)) tyX1 tyX1_ok nmX1 hown hM.1 hP hD hS 0 rfl rfl 6 (by decide) (hts _ (List.mem_cons_of_mem _ mw103)) (fun _ h9 => h9) rfl hin rfl (by decide +kernel) rfl rfl (Nat.le_of_ble_eq_true rfl) dX1_init_54 (fun H locs hP hD hS => ?_)
  have hP : va_P (dC, dI) vwCl ([(q0, .inr (4, [.ref v_1, .ref v_2, .ref v_3, .ref v_4, .ref v_5, .ref v_6, .ref b9, .int 0])), (v_1, .inl (dA 1, 4, .inr (.inl (fun _ => 0)))), (v_2, .inl (dA 0, 4, .inl (fun _ => 0))), (v_3, .inl (dA 0, 4, .inl (fun _ => 0))), (v_4, .inl (dA 0, 4, .inl (fun _ => 0))), (v_5, .inl (dA 1, 4, .inr (.inl (fun _ => 0)))), (v_6, .inl (dA 0, 4, .inl (fun _ => 0))), (b9, .inr (1, [.ref v9, .int 0, .int 0, .int (iZ ((0 : Nat) : Int))])), (v9, .inl (dA 2, 16, .inl (fun j => iZ ((fun _ => (0 : Int)) j))))] : va_W) _ := hP
  have hD : va_D (kA0 q0 s.heap.size) ([(q0, .inr (4, [.ref v_1, .ref v_2, .ref v_3, .ref v_4, .ref v_5, .ref v_6, .ref b9, .int 0])), (v_1, .inl (dA 1, 4, .inr (.inl (fun _ => 0)))), (v_2, .inl (dA 0, 4, .inl (fun _ => 0))), (v_3, .inl (dA 0, 4, .inl (fun _ => 0))), (v_4, .inl (dA 0, 4, .inl (fun _ => 0))), (v_5, .inl (dA 1, 4, .inr (.inl (fun _ => 0)))), (v_6, .inl (dA 0, 4, .inl (fun _ => 0))), (b9, .inr (1, [.ref v9, .int 0, .int 0, .int (iZ ((0 : Nat) : Int))])), (v9, .inl (dA 2, 16, .inl (fun j => iZ ((fun _ => (0 : Int)) j))))] : va_W) := hD
  refine lv_aload_n hx hb dX1_init_57 rfl (lv_at hl 0 rfl) ?_
  refine lv_iconst (v := iZ 0) hx hb dX1_init_58 rfl ?_
  refine va_put (D := (dC, dI)) (ci := 4) (v := .int (iZ 0)) (ty := .int) (C := RX1) (T := TX1) (N := 8) hx hb hts (fun w h => List.mem_cons_of_mem _ (gF_0_in h)) tyX1 tyX1_ok nmX1 hown hM.1 hP hD hS 0 rfl rfl 7 (by decide) (hts _ (List.mem_cons_of_mem _ mw104)) (fun _ h9 => h9) rfl (by decide +kernel) rfl rfl (Nat.le_of_ble_eq_true rfl) dX1_init_59 (fun H locs hP hD hS => ?_)
  have hP : va_P (dC, dI) vwCl ([(q0, .inr (4, [.ref v_1, .ref v_2, .ref v_3, .ref v_4, .ref v_5, .ref v_6, .ref b9, .int (iZ 0)])), (v_1, .inl (dA 1, 4, .inr (.inl (fun _ => 0)))), (v_2, .inl (dA 0, 4, .inl (fun _ => 0))), (v_3, .inl (dA 0, 4, .inl (fun _ => 0))), (v_4, .inl (dA 0, 4, .inl (fun _ => 0))), (v_5, .inl (dA 1, 4, .inr (.inl (fun _ => 0)))), (v_6, .inl (dA 0, 4, .inl (fun _ => 0))), (b9, .inr (1, [.ref v9, .int 0, .int 0, .int (iZ ((0 : Nat) : Int))])), (v9, .inl (dA 2, 16, .inl (fun j => iZ ((fun _ => (0 : Int)) j))))] : va_W) _ := hP
  have hD : va_D (kA0 q0 s.heap.size) ([(q0, .inr (4, [.ref v_1, .ref v_2, .ref v_3, .ref v_4, .ref v_5, .ref v_6, .ref b9, .int (iZ 0)])), (v_1, .inl (dA 1, 4, .inr (.inl (fun _ => 0)))), (v_2, .inl (dA 0, 4, .inl (fun _ => 0))), (v_3, .inl (dA 0, 4, .inl (fun _ => 0))), (v_4, .inl (dA 0, 4, .inl (fun _ => 0))), (v_5, .inl (dA 1, 4, .inr (.inl (fun _ => 0)))), (v_6, .inl (dA 0, 4, .inl (fun _ => 0))), (b9, .inr (1, [.ref v9, .int 0, .int 0, .int (iZ ((0 : Nat) : Int))])), (v9, .inl (dA 2, 16, .inl (fun j => iZ ((fun _ => (0 : Int)) j))))] : va_W) := hD
  refine lv_iconst (v := iZ 0) hx hb dX1_init_62 rfl ?_
  refine lv_istore_n (lv' := [(1, .int (iZ 0)), (0, .ref q0)]) hx hb dX1_init_63 rfl hl (by decide) rfl (fun ls hl => ?_)
  refine lv_iload_n hx hb dX1_init_64 rfl (lv_at hl 0 rfl) ?_
  refine lv_iconst (v := iZ 4) hx hb dX1_init_65 rfl ?_
  refine kz_icmp_ge (tgt := 96) hx hb (by omega) (by omega) dX1_init_66 (by decide) (fun c_7 => absurd c_7 (by omega)) (fun c_7 => ?_)
  refine lv_aload_n hx hb dX1_init_69 rfl (lv_at hl 1 rfl) ?_
  refine va_get (D := (dC, dI)) (ci := 4) (v := .ref v_3) (C := RX1) (T := TX1) (N := 8) hx hb hts (fun w h => List.mem_cons_of_mem _ (gF_0_in h)) hown hM.1 hP 0 rfl rfl 2 (by decide) (hts _ (List.mem_cons_of_mem _ mw99)) (fun _ h9 => h9) rfl dX1_init_70 ?_
  refine lv_iload_n hx hb dX1_init_73 rfl (lv_at hl 0 rfl) ?_
  refine lv_iconst (v := iZ 1) hx hb dX1_init_74 rfl ?_
  refine kz_iast hx hb hM.1 hP hD hS 3 rfl (by omega) (by decide) dX1_init_75 (fun H locs hP hD hS => ?_)
  have hP : va_P (dC, dI) vwCl ([(q0, .inr (4, [.ref v_1, .ref v_2, .ref v_3, .ref v_4, .ref v_5, .ref v_6, .ref b9, .int (iZ 0)])), (v_1, .inl (dA 1, 4, .inr (.inl (fun _ => 0)))), (v_2, .inl (dA 0, 4, .inl (fun _ => 0))), (v_3, .inl (dA 0, 4, .inl (upd (fun _ => 0) 0 (iZ 1)))), (v_4, .inl (dA 0, 4, .inl (fun _ => 0))), (v_5, .inl (dA 1, 4, .inr (.inl (fun _ => 0)))), (v_6, .inl (dA 0, 4, .inl (fun _ => 0))), (b9, .inr (1, [.ref v9, .int 0, .int 0, .int (iZ ((0 : Nat) : Int))])), (v9, .inl (dA 2, 16, .inl (fun j => iZ ((fun _ => (0 : Int)) j))))] : va_W) _ := hP
  have hD : va_D (kA0 q0 s.heap.size) ([(q0, .inr (4, [.ref v_1, .ref v_2, .ref v_3, .ref v_4, .ref v_5, .ref v_6, .ref b9, .int (iZ 0)])), (v_1, .inl (dA 1, 4, .inr (.inl (fun _ => 0)))), (v_2, .inl (dA 0, 4, .inl (fun _ => 0))), (v_3, .inl (dA 0, 4, .inl (upd (fun _ => 0) 0 (iZ 1)))), (v_4, .inl (dA 0, 4, .inl (fun _ => 0))), (v_5, .inl (dA 1, 4, .inr (.inl (fun _ => 0)))), (v_6, .inl (dA 0, 4, .inl (fun _ => 0))), (b9, .inr (1, [.ref v9, .int 0, .int 0, .int (iZ ((0 : Nat) : Int))])), (v9, .inl (dA 2, 16, .inl (fun j => iZ ((fun _ => (0 : Int)) j))))] : va_W) := hD
  refine lv_aload_n hx hb dX1_init_76 rfl (lv_at hl 1 rfl) ?_
  refine va_get (D := (dC, dI)) (ci := 4) (v := .ref v_4) (C := RX1) (T := TX1) (N := 8) hx hb hts (fun w h => List.mem_cons_of_mem _ (gF_0_in h)) hown hM.1 hP 0 rfl rfl 3 (by decide) (hts _ (List.mem_cons_of_mem _ mw100)) (fun _ h9 => h9) rfl dX1_init_77 ?_
  refine lv_iload_n hx hb dX1_init_80 rfl (lv_at hl 0 rfl) ?_
  refine lv_iconst (v := iZ 1) hx hb dX1_init_81 rfl ?_
  refine kz_iast hx hb hM.1 hP hD hS 4 rfl (by omega) (by decide) dX1_init_82 (fun H locs hP hD hS => ?_)
  have hP : va_P (dC, dI) vwCl ([(q0, .inr (4, [.ref v_1, .ref v_2, .ref v_3, .ref v_4, .ref v_5, .ref v_6, .ref b9, .int (iZ 0)])), (v_1, .inl (dA 1, 4, .inr (.inl (fun _ => 0)))), (v_2, .inl (dA 0, 4, .inl (fun _ => 0))), (v_3, .inl (dA 0, 4, .inl (upd (fun _ => 0) 0 (iZ 1)))), (v_4, .inl (dA 0, 4, .inl (upd (fun _ => 0) 0 (iZ 1)))), (v_5, .inl (dA 1, 4, .inr (.inl (fun _ => 0)))), (v_6, .inl (dA 0, 4, .inl (fun _ => 0))), (b9, .inr (1, [.ref v9, .int 0, .int 0, .int (iZ ((0 : Nat) : Int))])), (v9, .inl (dA 2, 16, .inl (fun j => iZ ((fun _ => (0 : Int)) j))))] : va_W) _ := hP
  have hD : va_D (kA0 q0 s.heap.size) ([(q0, .inr (4, [.ref v_1, .ref v_2, .ref v_3, .ref v_4, .ref v_5, .ref v_6, .ref b9, .int (iZ 0)])), (v_1, .inl (dA 1, 4, .inr (.inl (fun _ => 0)))), (v_2, .inl (dA 0, 4, .inl (fun _ => 0))), (v_3, .inl (dA 0, 4, .inl (upd (fun _ => 0) 0 (iZ 1)))), (v_4, .inl (dA 0, 4, .inl (upd (fun _ => 0) 0 (iZ 1)))), (v_5, .inl (dA 1, 4, .inr (.inl (fun _ => 0)))), (v_6, .inl (dA 0, 4, .inl (fun _ => 0))), (b9, .inr (1, [.ref v9, .int 0, .int 0, .int (iZ ((0 : Nat) : Int))])), (v9, .inl (dA 2, 16, .inl (fun j => iZ ((fun _ => (0 : Int)) j))))] : va_W) := hD
  refine lv_aload_n hx hb dX1_init_83 rfl (lv_at hl 1 rfl) ?_
  refine va_get (D := (dC, dI)) (ci := 4) (v := .ref v_6) (C := RX1) (T := TX1) (N := 8) hx hb hts (fun w h => List.mem_cons_of_mem _ (gF_0_in h)) hown hM.1 hP 0 rfl rfl 5 (by decide) (hts _ (List.mem_cons_of_mem _ mw102)) (fun _ h9 => h9) rfl dX1_init_84 ?_
  refine lv_iload_n hx hb dX1_init_87 rfl (lv_at hl 0 rfl) ?_
  refine lv_iconst (v := iZ 1) hx hb dX1_init_88 rfl ?_
  refine kz_iast hx hb hM.1 hP hD hS 6 rfl (by omega) (by decide) dX1_init_89 (fun H locs hP hD hS => ?_)
  have hP : va_P (dC, dI) vwCl ([(q0, .inr (4, [.ref v_1, .ref v_2, .ref v_3, .ref v_4, .ref v_5, .ref v_6, .ref b9, .int (iZ 0)])), (v_1, .inl (dA 1, 4, .inr (.inl (fun _ => 0)))), (v_2, .inl (dA 0, 4, .inl (fun _ => 0))), (v_3, .inl (dA 0, 4, .inl (upd (fun _ => 0) 0 (iZ 1)))), (v_4, .inl (dA 0, 4, .inl (upd (fun _ => 0) 0 (iZ 1)))), (v_5, .inl (dA 1, 4, .inr (.inl (fun _ => 0)))), (v_6, .inl (dA 0, 4, .inl (upd (fun _ => 0) 0 (iZ 1)))), (b9, .inr (1, [.ref v9, .int 0, .int 0, .int (iZ ((0 : Nat) : Int))])), (v9, .inl (dA 2, 16, .inl (fun j => iZ ((fun _ => (0 : Int)) j))))] : va_W) _ := hP
  have hD : va_D (kA0 q0 s.heap.size) ([(q0, .inr (4, [.ref v_1, .ref v_2, .ref v_3, .ref v_4, .ref v_5, .ref v_6, .ref b9, .int (iZ 0)])), (v_1, .inl (dA 1, 4, .inr (.inl (fun _ => 0)))), (v_2, .inl (dA 0, 4, .inl (fun _ => 0))), (v_3, .inl (dA 0, 4, .inl (upd (fun _ => 0) 0 (iZ 1)))), (v_4, .inl (dA 0, 4, .inl (upd (fun _ => 0) 0 (iZ 1)))), (v_5, .inl (dA 1, 4, .inr (.inl (fun _ => 0)))), (v_6, .inl (dA 0, 4, .inl (upd (fun _ => 0) 0 (iZ 1)))), (b9, .inr (1, [.ref v9, .int 0, .int 0, .int (iZ ((0 : Nat) : Int))])), (v9, .inl (dA 2, 16, .inl (fun j => iZ ((fun _ => (0 : Int)) j))))] : va_W) := hD
  refine lv_iinc (v := iZ (1)) (lv' := [(1, .int (iZ 1)), (0, .ref q0)]) hx hb dX1_init_90 hl (k := 0) rfl rfl (by decide) rfl (fun ls hl => ?_)
  refine lv_goto (tgt := 64) hx hb dX1_init_93 (by decide) ?_
  refine lv_iload_n hx hb dX1_init_64 rfl (lv_at hl 0 rfl) ?_
  refine lv_iconst (v := iZ 4) hx hb dX1_init_65 rfl ?_
  refine kz_icmp_ge (tgt := 96) hx hb (by omega) (by omega) dX1_init_66 (by decide) (fun c_8 => absurd c_8 (by omega)) (fun c_8 => ?_)
  refine lv_aload_n hx hb dX1_init_69 rfl (lv_at hl 1 rfl) ?_
  refine va_get (D := (dC, dI)) (ci := 4) (v := .ref v_3) (C := RX1) (T := TX1) (N := 8) hx hb hts (fun w h => List.mem_cons_of_mem _ (gF_0_in h)) hown hM.1 hP 0 rfl rfl 2 (by decide) (hts _ (List.mem_cons_of_mem _ mw99)) (fun _ h9 => h9) rfl dX1_init_70 ?_
  refine lv_iload_n hx hb dX1_init_73 rfl (lv_at hl 0 rfl) ?_
  refine lv_iconst (v := iZ 1) hx hb dX1_init_74 rfl ?_
  refine kz_iast hx hb hM.1 hP hD hS 3 rfl (by omega) (by decide) dX1_init_75 (fun H locs hP hD hS => ?_)
  have hP : va_P (dC, dI) vwCl ([(q0, .inr (4, [.ref v_1, .ref v_2, .ref v_3, .ref v_4, .ref v_5, .ref v_6, .ref b9, .int (iZ 0)])), (v_1, .inl (dA 1, 4, .inr (.inl (fun _ => 0)))), (v_2, .inl (dA 0, 4, .inl (fun _ => 0))), (v_3, .inl (dA 0, 4, .inl (upd (upd (fun _ => 0) 0 (iZ 1)) 1 (iZ 1)))), (v_4, .inl (dA 0, 4, .inl (upd (fun _ => 0) 0 (iZ 1)))), (v_5, .inl (dA 1, 4, .inr (.inl (fun _ => 0)))), (v_6, .inl (dA 0, 4, .inl (upd (fun _ => 0) 0 (iZ 1)))), (b9, .inr (1, [.ref v9, .int 0, .int 0, .int (iZ ((0 : Nat) : Int))])), (v9, .inl (dA 2, 16, .inl (fun j => iZ ((fun _ => (0 : Int)) j))))] : va_W) _ := hP
  have hD : va_D (kA0 q0 s.heap.size) ([(q0, .inr (4, [.ref v_1, .ref v_2, .ref v_3, .ref v_4, .ref v_5, .ref v_6, .ref b9, .int (iZ 0)])), (v_1, .inl (dA 1, 4, .inr (.inl (fun _ => 0)))), (v_2, .inl (dA 0, 4, .inl (fun _ => 0))), (v_3, .inl (dA 0, 4, .inl (upd (upd (fun _ => 0) 0 (iZ 1)) 1 (iZ 1)))), (v_4, .inl (dA 0, 4, .inl (upd (fun _ => 0) 0 (iZ 1)))), (v_5, .inl (dA 1, 4, .inr (.inl (fun _ => 0)))), (v_6, .inl (dA 0, 4, .inl (upd (fun _ => 0) 0 (iZ 1)))), (b9, .inr (1, [.ref v9, .int 0, .int 0, .int (iZ ((0 : Nat) : Int))])), (v9, .inl (dA 2, 16, .inl (fun j => iZ ((fun _ => (0 : Int)) j))))] : va_W) := hD
  refine lv_aload_n hx hb dX1_init_76 rfl (lv_at hl 1 rfl) ?_
  refine va_get (D := (dC, dI)) (ci := 4) (v := .ref v_4) (C := RX1) (T := TX1) (N := 8) hx hb hts (fun w h => List.mem_cons_of_mem _ (gF_0_in h)) hown hM.1 hP 0 rfl rfl 3 (by decide) (hts _ (List.mem_cons_of_mem _ mw100)) (fun _ h9 => h9) rfl dX1_init_77 ?_
  refine lv_iload_n hx hb dX1_init_80 rfl (lv_at hl 0 rfl) ?_
  refine lv_iconst (v := iZ 1) hx hb dX1_init_81 rfl ?_
  refine kz_iast hx hb hM.1 hP hD hS 4 rfl (by omega) (by decide) dX1_init_82 (fun H locs hP hD hS => ?_)
  have hP : va_P (dC, dI) vwCl ([(q0, .inr (4, [.ref v_1, .ref v_2, .ref v_3, .ref v_4, .ref v_5, .ref v_6, .ref b9, .int (iZ 0)])), (v_1, .inl (dA 1, 4, .inr (.inl (fun _ => 0)))), (v_2, .inl (dA 0, 4, .inl (fun _ => 0))), (v_3, .inl (dA 0, 4, .inl (upd (upd (fun _ => 0) 0 (iZ 1)) 1 (iZ 1)))), (v_4, .inl (dA 0, 4, .inl (upd (upd (fun _ => 0) 0 (iZ 1)) 1 (iZ 1)))), (v_5, .inl (dA 1, 4, .inr (.inl (fun _ => 0)))), (v_6, .inl (dA 0, 4, .inl (upd (fun _ => 0) 0 (iZ 1)))), (b9, .inr (1, [.ref v9, .int 0, .int 0, .int (iZ ((0 : Nat) : Int))])), (v9, .inl (dA 2, 16, .inl (fun j => iZ ((fun _ => (0 : Int)) j))))] : va_W) _ := hP
  have hD : va_D (kA0 q0 s.heap.size) ([(q0, .inr (4, [.ref v_1, .ref v_2, .ref v_3, .ref v_4, .ref v_5, .ref v_6, .ref b9, .int (iZ 0)])), (v_1, .inl (dA 1, 4, .inr (.inl (fun _ => 0)))), (v_2, .inl (dA 0, 4, .inl (fun _ => 0))), (v_3, .inl (dA 0, 4, .inl (upd (upd (fun _ => 0) 0 (iZ 1)) 1 (iZ 1)))), (v_4, .inl (dA 0, 4, .inl (upd (upd (fun _ => 0) 0 (iZ 1)) 1 (iZ 1)))), (v_5, .inl (dA 1, 4, .inr (.inl (fun _ => 0)))), (v_6, .inl (dA 0, 4, .inl (upd (fun _ => 0) 0 (iZ 1)))), (b9, .inr (1, [.ref v9, .int 0, .int 0, .int (iZ ((0 : Nat) : Int))])), (v9, .inl (dA 2, 16, .inl (fun j => iZ ((fun _ => (0 : Int)) j))))] : va_W) := hD
  refine lv_aload_n hx hb dX1_init_83 rfl (lv_at hl 1 rfl) ?_
  refine va_get (D := (dC, dI)) (ci := 4) (v := .ref v_6) (C := RX1) (T := TX1) (N := 8) hx hb hts (fun w h => List.mem_cons_of_mem _ (gF_0_in h)) hown hM.1 hP 0 rfl rfl 5 (by decide) (hts _ (List.mem_cons_of_mem _ mw102)) (fun _ h9 => h9) rfl dX1_init_84 ?_
  refine lv_iload_n hx hb dX1_init_87 rfl (lv_at hl 0 rfl) ?_
  refine lv_iconst (v := iZ 1) hx hb dX1_init_88 rfl ?_
  refine kz_iast hx hb hM.1 hP hD hS 6 rfl (by omega) (by decide) dX1_init_89 (fun H locs hP hD hS => ?_)
  have hP : va_P (dC, dI) vwCl ([(q0, .inr (4, [.ref v_1, .ref v_2, .ref v_3, .ref v_4, .ref v_5, .ref v_6, .ref b9, .int (iZ 0)])), (v_1, .inl (dA 1, 4, .inr (.inl (fun _ => 0)))), (v_2, .inl (dA 0, 4, .inl (fun _ => 0))), (v_3, .inl (dA 0, 4, .inl (upd (upd (fun _ => 0) 0 (iZ 1)) 1 (iZ 1)))), (v_4, .inl (dA 0, 4, .inl (upd (upd (fun _ => 0) 0 (iZ 1)) 1 (iZ 1)))), (v_5, .inl (dA 1, 4, .inr (.inl (fun _ => 0)))), (v_6, .inl (dA 0, 4, .inl (upd (upd (fun _ => 0) 0 (iZ 1)) 1 (iZ 1)))), (b9, .inr (1, [.ref v9, .int 0, .int 0, .int (iZ ((0 : Nat) : Int))])), (v9, .inl (dA 2, 16, .inl (fun j => iZ ((fun _ => (0 : Int)) j))))] : va_W) _ := hP
  have hD : va_D (kA0 q0 s.heap.size) ([(q0, .inr (4, [.ref v_1, .ref v_2, .ref v_3, .ref v_4, .ref v_5, .ref v_6, .ref b9, .int (iZ 0)])), (v_1, .inl (dA 1, 4, .inr (.inl (fun _ => 0)))), (v_2, .inl (dA 0, 4, .inl (fun _ => 0))), (v_3, .inl (dA 0, 4, .inl (upd (upd (fun _ => 0) 0 (iZ 1)) 1 (iZ 1)))), (v_4, .inl (dA 0, 4, .inl (upd (upd (fun _ => 0) 0 (iZ 1)) 1 (iZ 1)))), (v_5, .inl (dA 1, 4, .inr (.inl (fun _ => 0)))), (v_6, .inl (dA 0, 4, .inl (upd (upd (fun _ => 0) 0 (iZ 1)) 1 (iZ 1)))), (b9, .inr (1, [.ref v9, .int 0, .int 0, .int (iZ ((0 : Nat) : Int))])), (v9, .inl (dA 2, 16, .inl (fun j => iZ ((fun _ => (0 : Int)) j))))] : va_W) := hD
  refine lv_iinc (v := iZ (2)) (lv' := [(1, .int (iZ 2)), (0, .ref q0)]) hx hb dX1_init_90 hl (k := 0) rfl rfl (by decide) rfl (fun ls hl => ?_)
  refine lv_goto (tgt := 64) hx hb dX1_init_93 (by decide) ?_
  refine lv_iload_n hx hb dX1_init_64 rfl (lv_at hl 0 rfl) ?_
  refine lv_iconst (v := iZ 4) hx hb dX1_init_65 rfl ?_
  refine kz_icmp_ge (tgt := 96) hx hb (by omega) (by omega) dX1_init_66 (by decide) (fun c_9 => absurd c_9 (by omega)) (fun c_9 => ?_)
  refine lv_aload_n hx hb dX1_init_69 rfl (lv_at hl 1 rfl) ?_
  refine va_get (D := (dC, dI)) (ci := 4) (v := .ref v_3) (C := RX1) (T := TX1) (N := 8) hx hb hts (fun w h => List.mem_cons_of_mem _ (gF_0_in h)) hown hM.1 hP 0 rfl rfl 2 (by decide) (hts _ (List.mem_cons_of_mem _ mw99)) (fun _ h9 => h9) rfl dX1_init_70 ?_
  refine lv_iload_n hx hb dX1_init_73 rfl (lv_at hl 0 rfl) ?_
  refine lv_iconst (v := iZ 1) hx hb dX1_init_74 rfl ?_
  refine kz_iast hx hb hM.1 hP hD hS 3 rfl (by omega) (by decide) dX1_init_75 (fun H locs hP hD hS => ?_)
  have hP : va_P (dC, dI) vwCl ([(q0, .inr (4, [.ref v_1, .ref v_2, .ref v_3, .ref v_4, .ref v_5, .ref v_6, .ref b9, .int (iZ 0)])), (v_1, .inl (dA 1, 4, .inr (.inl (fun _ => 0)))), (v_2, .inl (dA 0, 4, .inl (fun _ => 0))), (v_3, .inl (dA 0, 4, .inl (upd (upd (upd (fun _ => 0) 0 (iZ 1)) 1 (iZ 1)) 2 (iZ 1)))), (v_4, .inl (dA 0, 4, .inl (upd (upd (fun _ => 0) 0 (iZ 1)) 1 (iZ 1)))), (v_5, .inl (dA 1, 4, .inr (.inl (fun _ => 0)))), (v_6, .inl (dA 0, 4, .inl (upd (upd (fun _ => 0) 0 (iZ 1)) 1 (iZ 1)))), (b9, .inr (1, [.ref v9, .int 0, .int 0, .int (iZ ((0 : Nat) : Int))])), (v9, .inl (dA 2, 16, .inl (fun j => iZ ((fun _ => (0 : Int)) j))))] : va_W) _ := hP
  have hD : va_D (kA0 q0 s.heap.size) ([(q0, .inr (4, [.ref v_1, .ref v_2, .ref v_3, .ref v_4, .ref v_5, .ref v_6, .ref b9, .int (iZ 0)])), (v_1, .inl (dA 1, 4, .inr (.inl (fun _ => 0)))), (v_2, .inl (dA 0, 4, .inl (fun _ => 0))), (v_3, .inl (dA 0, 4, .inl (upd (upd (upd (fun _ => 0) 0 (iZ 1)) 1 (iZ 1)) 2 (iZ 1)))), (v_4, .inl (dA 0, 4, .inl (upd (upd (fun _ => 0) 0 (iZ 1)) 1 (iZ 1)))), (v_5, .inl (dA 1, 4, .inr (.inl (fun _ => 0)))), (v_6, .inl (dA 0, 4, .inl (upd (upd (fun _ => 0) 0 (iZ 1)) 1 (iZ 1)))), (b9, .inr (1, [.ref v9, .int 0, .int 0, .int (iZ ((0 : Nat) : Int))])), (v9, .inl (dA 2, 16, .inl (fun j => iZ ((fun _ => (0 : Int)) j))))] : va_W) := hD
  refine lv_aload_n hx hb dX1_init_76 rfl (lv_at hl 1 rfl) ?_
  refine va_get (D := (dC, dI)) (ci := 4) (v := .ref v_4) (C := RX1) (T := TX1) (N := 8) hx hb hts (fun w h => List.mem_cons_of_mem _ (gF_0_in h)) hown hM.1 hP 0 rfl rfl 3 (by decide) (hts _ (List.mem_cons_of_mem _ mw100)) (fun _ h9 => h9) rfl dX1_init_77 ?_
  refine lv_iload_n hx hb dX1_init_80 rfl (lv_at hl 0 rfl) ?_
  refine lv_iconst (v := iZ 1) hx hb dX1_init_81 rfl ?_
  refine kz_iast hx hb hM.1 hP hD hS 4 rfl (by omega) (by decide) dX1_init_82 (fun H locs hP hD hS => ?_)
  have hP : va_P (dC, dI) vwCl ([(q0, .inr (4, [.ref v_1, .ref v_2, .ref v_3, .ref v_4, .ref v_5, .ref v_6, .ref b9, .int (iZ 0)])), (v_1, .inl (dA 1, 4, .inr (.inl (fun _ => 0)))), (v_2, .inl (dA 0, 4, .inl (fun _ => 0))), (v_3, .inl (dA 0, 4, .inl (upd (upd (upd (fun _ => 0) 0 (iZ 1)) 1 (iZ 1)) 2 (iZ 1)))), (v_4, .inl (dA 0, 4, .inl (upd (upd (upd (fun _ => 0) 0 (iZ 1)) 1 (iZ 1)) 2 (iZ 1)))), (v_5, .inl (dA 1, 4, .inr (.inl (fun _ => 0)))), (v_6, .inl (dA 0, 4, .inl (upd (upd (fun _ => 0) 0 (iZ 1)) 1 (iZ 1)))), (b9, .inr (1, [.ref v9, .int 0, .int 0, .int (iZ ((0 : Nat) : Int))])), (v9, .inl (dA 2, 16, .inl (fun j => iZ ((fun _ => (0 : Int)) j))))] : va_W) _ := hP
  have hD : va_D (kA0 q0 s.heap.size) ([(q0, .inr (4, [.ref v_1, .ref v_2, .ref v_3, .ref v_4, .ref v_5, .ref v_6, .ref b9, .int (iZ 0)])), (v_1, .inl (dA 1, 4, .inr (.inl (fun _ => 0)))), (v_2, .inl (dA 0, 4, .inl (fun _ => 0))), (v_3, .inl (dA 0, 4, .inl (upd (upd (upd (fun _ => 0) 0 (iZ 1)) 1 (iZ 1)) 2 (iZ 1)))), (v_4, .inl (dA 0, 4, .inl (upd (upd (upd (fun _ => 0) 0 (iZ 1)) 1 (iZ 1)) 2 (iZ 1)))), (v_5, .inl (dA 1, 4, .inr (.inl (fun _ => 0)))), (v_6, .inl (dA 0, 4, .inl (upd (upd (fun _ => 0) 0 (iZ 1)) 1 (iZ 1)))), (b9, .inr (1, [.ref v9, .int 0, .int 0, .int (iZ ((0 : Nat) : Int))])), (v9, .inl (dA 2, 16, .inl (fun j => iZ ((fun _ => (0 : Int)) j))))] : va_W) := hD
  refine lv_aload_n hx hb dX1_init_83 rfl (lv_at hl 1 rfl) ?_
  refine va_get (D := (dC, dI)) (ci := 4) (v := .ref v_6) (C := RX1) (T := TX1) (N := 8) hx hb hts (fun w h => List.mem_cons_of_mem _ (gF_0_in h)) hown hM.1 hP 0 rfl rfl 5 (by decide) (hts _ (List.mem_cons_of_mem _ mw102)) (fun _ h9 => h9) rfl dX1_init_84 ?_
  refine lv_iload_n hx hb dX1_init_87 rfl (lv_at hl 0 rfl) ?_
  refine lv_iconst (v := iZ 1) hx hb dX1_init_88 rfl ?_
  refine kz_iast hx hb hM.1 hP hD hS 6 rfl (by omega) (by decide) dX1_init_89 (fun H locs hP hD hS => ?_)
  have hP : va_P (dC, dI) vwCl ([(q0, .inr (4, [.ref v_1, .ref v_2, .ref v_3, .ref v_4, .ref v_5, .ref v_6, .ref b9, .int (iZ 0)])), (v_1, .inl (dA 1, 4, .inr (.inl (fun _ => 0)))), (v_2, .inl (dA 0, 4, .inl (fun _ => 0))), (v_3, .inl (dA 0, 4, .inl (upd (upd (upd (fun _ => 0) 0 (iZ 1)) 1 (iZ 1)) 2 (iZ 1)))), (v_4, .inl (dA 0, 4, .inl (upd (upd (upd (fun _ => 0) 0 (iZ 1)) 1 (iZ 1)) 2 (iZ 1)))), (v_5, .inl (dA 1, 4, .inr (.inl (fun _ => 0)))), (v_6, .inl (dA 0, 4, .inl (upd (upd (upd (fun _ => 0) 0 (iZ 1)) 1 (iZ 1)) 2 (iZ 1)))), (b9, .inr (1, [.ref v9, .int 0, .int 0, .int (iZ ((0 : Nat) : Int))])), (v9, .inl (dA 2, 16, .inl (fun j => iZ ((fun _ => (0 : Int)) j))))] : va_W) _ := hP
  have hD : va_D (kA0 q0 s.heap.size) ([(q0, .inr (4, [.ref v_1, .ref v_2, .ref v_3, .ref v_4, .ref v_5, .ref v_6, .ref b9, .int (iZ 0)])), (v_1, .inl (dA 1, 4, .inr (.inl (fun _ => 0)))), (v_2, .inl (dA 0, 4, .inl (fun _ => 0))), (v_3, .inl (dA 0, 4, .inl (upd (upd (upd (fun _ => 0) 0 (iZ 1)) 1 (iZ 1)) 2 (iZ 1)))), (v_4, .inl (dA 0, 4, .inl (upd (upd (upd (fun _ => 0) 0 (iZ 1)) 1 (iZ 1)) 2 (iZ 1)))), (v_5, .inl (dA 1, 4, .inr (.inl (fun _ => 0)))), (v_6, .inl (dA 0, 4, .inl (upd (upd (upd (fun _ => 0) 0 (iZ 1)) 1 (iZ 1)) 2 (iZ 1)))), (b9, .inr (1, [.ref v9, .int 0, .int 0, .int (iZ ((0 : Nat) : Int))])), (v9, .inl (dA 2, 16, .inl (fun j => iZ ((fun _ => (0 : Int)) j))))] : va_W) := hD
  refine lv_iinc (v := iZ (3)) (lv' := [(1, .int (iZ 3)), (0, .ref q0)]) hx hb dX1_init_90 hl (k := 0) rfl rfl (by decide) rfl (fun ls hl => ?_)
  refine lv_goto (tgt := 64) hx hb dX1_init_93 (by decide) ?_
  refine lv_iload_n hx hb dX1_init_64 rfl (lv_at hl 0 rfl) ?_
  refine lv_iconst (v := iZ 4) hx hb dX1_init_65 rfl ?_
  refine kz_icmp_ge (tgt := 96) hx hb (by omega) (by omega) dX1_init_66 (by decide) (fun c_10 => absurd c_10 (by omega)) (fun c_10 => ?_)
  refine lv_aload_n hx hb dX1_init_69 rfl (lv_at hl 1 rfl) ?_
  refine va_get (D := (dC, dI)) (ci := 4) (v := .ref v_3) (C := RX1) (T := TX1) (N := 8) hx hb hts (fun w h => List.mem_cons_of_mem _ (gF_0_in h)) hown hM.1 hP 0 rfl rfl 2 (by decide) (hts _ (List.mem_cons_of_mem _ mw99)) (fun _ h9 => h9) rfl dX1_init_70 ?_
  refine lv_iload_n hx hb dX1_init_73 rfl (lv_at hl 0 rfl) ?_
  refine lv_iconst (v := iZ 1) hx hb dX1_init_74 rfl ?_
  refine kz_iast hx hb hM.1 hP hD hS 3 rfl (by omega) (by decide) dX1_init_75 (fun H locs hP hD hS => ?_)
  have hP : va_P (dC, dI) vwCl ([(q0, .inr (4, [.ref v_1, .ref v_2, .ref v_3, .ref v_4, .ref v_5, .ref v_6, .ref b9, .int (iZ 0)])), (v_1, .inl (dA 1, 4, .inr (.inl (fun _ => 0)))), (v_2, .inl (dA 0, 4, .inl (fun _ => 0))), (v_3, .inl (dA 0, 4, .inl (upd (upd (upd (upd (fun _ => 0) 0 (iZ 1)) 1 (iZ 1)) 2 (iZ 1)) 3 (iZ 1)))), (v_4, .inl (dA 0, 4, .inl (upd (upd (upd (fun _ => 0) 0 (iZ 1)) 1 (iZ 1)) 2 (iZ 1)))), (v_5, .inl (dA 1, 4, .inr (.inl (fun _ => 0)))), (v_6, .inl (dA 0, 4, .inl (upd (upd (upd (fun _ => 0) 0 (iZ 1)) 1 (iZ 1)) 2 (iZ 1)))), (b9, .inr (1, [.ref v9, .int 0, .int 0, .int (iZ ((0 : Nat) : Int))])), (v9, .inl (dA 2, 16, .inl (fun j => iZ ((fun _ => (0 : Int)) j))))] : va_W) _ := hP
  have hD : va_D (kA0 q0 s.heap.size) ([(q0, .inr (4, [.ref v_1, .ref v_2, .ref v_3, .ref v_4, .ref v_5, .ref v_6, .ref b9, .int (iZ 0)])), (v_1, .inl (dA 1, 4, .inr (.inl (fun _ => 0)))), (v_2, .inl (dA 0, 4, .inl (fun _ => 0))), (v_3, .inl (dA 0, 4, .inl (upd (upd (upd (upd (fun _ => 0) 0 (iZ 1)) 1 (iZ 1)) 2 (iZ 1)) 3 (iZ 1)))), (v_4, .inl (dA 0, 4, .inl (upd (upd (upd (fun _ => 0) 0 (iZ 1)) 1 (iZ 1)) 2 (iZ 1)))), (v_5, .inl (dA 1, 4, .inr (.inl (fun _ => 0)))), (v_6, .inl (dA 0, 4, .inl (upd (upd (upd (fun _ => 0) 0 (iZ 1)) 1 (iZ 1)) 2 (iZ 1)))), (b9, .inr (1, [.ref v9, .int 0, .int 0, .int (iZ ((0 : Nat) : Int))])), (v9, .inl (dA 2, 16, .inl (fun j => iZ ((fun _ => (0 : Int)) j))))] : va_W) := hD
  refine lv_aload_n hx hb dX1_init_76 rfl (lv_at hl 1 rfl) ?_
  refine va_get (D := (dC, dI)) (ci := 4) (v := .ref v_4) (C := RX1) (T := TX1) (N := 8) hx hb hts (fun w h => List.mem_cons_of_mem _ (gF_0_in h)) hown hM.1 hP 0 rfl rfl 3 (by decide) (hts _ (List.mem_cons_of_mem _ mw100)) (fun _ h9 => h9) rfl dX1_init_77 ?_
  refine lv_iload_n hx hb dX1_init_80 rfl (lv_at hl 0 rfl) ?_
  refine lv_iconst (v := iZ 1) hx hb dX1_init_81 rfl ?_
  refine kz_iast hx hb hM.1 hP hD hS 4 rfl (by omega) (by decide) dX1_init_82 (fun H locs hP hD hS => ?_)
  have hP : va_P (dC, dI) vwCl ([(q0, .inr (4, [.ref v_1, .ref v_2, .ref v_3, .ref v_4, .ref v_5, .ref v_6, .ref b9, .int (iZ 0)])), (v_1, .inl (dA 1, 4, .inr (.inl (fun _ => 0)))), (v_2, .inl (dA 0, 4, .inl (fun _ => 0))), (v_3, .inl (dA 0, 4, .inl (upd (upd (upd (upd (fun _ => 0) 0 (iZ 1)) 1 (iZ 1)) 2 (iZ 1)) 3 (iZ 1)))), (v_4, .inl (dA 0, 4, .inl (upd (upd (upd (upd (fun _ => 0) 0 (iZ 1)) 1 (iZ 1)) 2 (iZ 1)) 3 (iZ 1)))), (v_5, .inl (dA 1, 4, .inr (.inl (fun _ => 0)))), (v_6, .inl (dA 0, 4, .inl (upd (upd (upd (fun _ => 0) 0 (iZ 1)) 1 (iZ 1)) 2 (iZ 1)))), (b9, .inr (1, [.ref v9, .int 0, .int 0, .int (iZ ((0 : Nat) : Int))])), (v9, .inl (dA 2, 16, .inl (fun j => iZ ((fun _ => (0 : Int)) j))))] : va_W) _ := hP
  have hD : va_D (kA0 q0 s.heap.size) ([(q0, .inr (4, [.ref v_1, .ref v_2, .ref v_3, .ref v_4, .ref v_5, .ref v_6, .ref b9, .int (iZ 0)])), (v_1, .inl (dA 1, 4, .inr (.inl (fun _ => 0)))), (v_2, .inl (dA 0, 4, .inl (fun _ => 0))), (v_3, .inl (dA 0, 4, .inl (upd (upd (upd (upd (fun _ => 0) 0 (iZ 1)) 1 (iZ 1)) 2 (iZ 1)) 3 (iZ 1)))), (v_4, .inl (dA 0, 4, .inl (upd (upd (upd (upd (fun _ => 0) 0 (iZ 1)) 1 (iZ 1)) 2 (iZ 1)) 3 (iZ 1)))), (v_5, .inl (dA 1, 4, .inr (.inl (fun _ => 0)))), (v_6, .inl (dA 0, 4, .inl (upd (upd (upd (fun _ => 0) 0 (iZ 1)) 1 (iZ 1)) 2 (iZ 1)))), (b9, .inr (1, [.ref v9, .int 0, .int 0, .int (iZ ((0 : Nat) : Int))])), (v9, .inl (dA 2, 16, .inl (fun j => iZ ((fun _ => (0 : Int)) j))))] : va_W) := hD
  refine lv_aload_n hx hb dX1_init_83 rfl (lv_at hl 1 rfl) ?_
  refine va_get (D := (dC, dI)) (ci := 4) (v := .ref v_6) (C := RX1) (T := TX1) (N := 8) hx hb hts (fun w h => List.mem_cons_of_mem _ (gF_0_in h)) hown hM.1 hP 0 rfl rfl 5 (by decide) (hts _ (List.mem_cons_of_mem _ mw102)) (fun _ h9 => h9) rfl dX1_init_84 ?_
  refine lv_iload_n hx hb dX1_init_87 rfl (lv_at hl 0 rfl) ?_
  refine lv_iconst (v := iZ 1) hx hb dX1_init_88 rfl ?_
  refine kz_iast hx hb hM.1 hP hD hS 6 rfl (by omega) (by decide) dX1_init_89 (fun H locs hP hD hS => ?_)
  have hP : va_P (dC, dI) vwCl ([(q0, .inr (4, [.ref v_1, .ref v_2, .ref v_3, .ref v_4, .ref v_5, .ref v_6, .ref b9, .int (iZ 0)])), (v_1, .inl (dA 1, 4, .inr (.inl (fun _ => 0)))), (v_2, .inl (dA 0, 4, .inl (fun _ => 0))), (v_3, .inl (dA 0, 4, .inl (upd (upd (upd (upd (fun _ => 0) 0 (iZ 1)) 1 (iZ 1)) 2 (iZ 1)) 3 (iZ 1)))), (v_4, .inl (dA 0, 4, .inl (upd (upd (upd (upd (fun _ => 0) 0 (iZ 1)) 1 (iZ 1)) 2 (iZ 1)) 3 (iZ 1)))), (v_5, .inl (dA 1, 4, .inr (.inl (fun _ => 0)))), (v_6, .inl (dA 0, 4, .inl (upd (upd (upd (upd (fun _ => 0) 0 (iZ 1)) 1 (iZ 1)) 2 (iZ 1)) 3 (iZ 1)))), (b9, .inr (1, [.ref v9, .int 0, .int 0, .int (iZ ((0 : Nat) : Int))])), (v9, .inl (dA 2, 16, .inl (fun j => iZ ((fun _ => (0 : Int)) j))))] : va_W) _ := hP
  have hD : va_D (kA0 q0 s.heap.size) ([(q0, .inr (4, [.ref v_1, .ref v_2, .ref v_3, .ref v_4, .ref v_5, .ref v_6, .ref b9, .int (iZ 0)])), (v_1, .inl (dA 1, 4, .inr (.inl (fun _ => 0)))), (v_2, .inl (dA 0, 4, .inl (fun _ => 0))), (v_3, .inl (dA 0, 4, .inl (upd (upd (upd (upd (fun _ => 0) 0 (iZ 1)) 1 (iZ 1)) 2 (iZ 1)) 3 (iZ 1)))), (v_4, .inl (dA 0, 4, .inl (upd (upd (upd (upd (fun _ => 0) 0 (iZ 1)) 1 (iZ 1)) 2 (iZ 1)) 3 (iZ 1)))), (v_5, .inl (dA 1, 4, .inr (.inl (fun _ => 0)))), (v_6, .inl (dA 0, 4, .inl (upd (upd (upd (upd (fun _ => 0) 0 (iZ 1)) 1 (iZ 1)) 2 (iZ 1)) 3 (iZ 1)))), (b9, .inr (1, [.ref v9, .int 0, .int 0, .int (iZ ((0 : Nat) : Int))])), (v9, .inl (dA 2, 16, .inl (fun j => iZ ((fun _ => (0 : Int)) j))))] : va_W) := hD
  refine lv_iinc (v := iZ (4)) (lv' := [(1, .int (iZ 4)), (0, .ref q0)]) hx hb dX1_init_90 hl (k := 0) rfl rfl (by decide) rfl (fun ls hl => ?_)
  refine lv_goto (tgt := 64) hx hb dX1_init_93 (by decide) ?_
  refine lv_iload_n hx hb dX1_init_64 rfl (lv_at hl 0 rfl) ?_
  refine lv_iconst (v := iZ 4) hx hb dX1_init_65 rfl ?_
  refine kz_icmp_ge (tgt := 96) hx hb (by omega) (by omega) dX1_init_66 (by decide) (fun c_11 => ?_) (fun c_11 => absurd c_11 (by omega))
  let r9 : Nat → Nat := qI [q0, v_1, v_2, v_3, v_4, v_5, v_6, b9, v9]
  have hP := kP_arrL hP 1 (g := fun j => lZ (cnt (sg0 0 j) (sg0 1 j))) rfl (fun i hi => by match i, hi with | 0, _ => rfl | 1, _ => rfl | 2, _ => rfl | 3, _ => rfl | n + 4, h => exact absurd h (by omega))
  have hD := hD.set (p := 1) (e := .inl (dA 1, 4, .inr (.inl (fun j => lZ (cnt (sg0 0 j) (sg0 1 j)))))) rfl
  have hP := kP_arrI hP 2 (g := fun j => iZ (sg0 2 j)) rfl (fun i hi => by match i, hi with | 0, _ => rfl | 1, _ => rfl | 2, _ => rfl | 3, _ => rfl | n + 4, h => exact absurd h (by omega))
  have hD := hD.set (p := 2) (e := .inl (dA 0, 4, .inl (fun j => iZ (sg0 2 j)))) rfl
  have hP := kP_arrI hP 3 (g := fun j => iZ (sg0 3 j)) rfl (fun i hi => by match i, hi with | 0, _ => rfl | 1, _ => rfl | 2, _ => rfl | 3, _ => rfl | n + 4, h => exact absurd h (by omega))
  have hD := hD.set (p := 3) (e := .inl (dA 0, 4, .inl (fun j => iZ (sg0 3 j)))) rfl
  have hP := kP_arrI hP 4 (g := fun j => iZ (sg0 4 j)) rfl (fun i hi => by match i, hi with | 0, _ => rfl | 1, _ => rfl | 2, _ => rfl | 3, _ => rfl | n + 4, h => exact absurd h (by omega))
  have hD := hD.set (p := 4) (e := .inl (dA 0, 4, .inl (fun j => iZ (sg0 4 j)))) rfl
  have hP := kP_arrL hP 5 (g := fun j => lZ (cnt (sg0 5 j) (sg0 6 j))) rfl (fun i hi => by match i, hi with | 0, _ => rfl | 1, _ => rfl | 2, _ => rfl | 3, _ => rfl | n + 4, h => exact absurd h (by omega))
  have hD := hD.set (p := 5) (e := .inl (dA 1, 4, .inr (.inl (fun j => lZ (cnt (sg0 5 j) (sg0 6 j)))))) rfl
  have hP := kP_arrI hP 6 (g := fun j => iZ (sg0 7 j)) rfl (fun i hi => by match i, hi with | 0, _ => rfl | 1, _ => rfl | 2, _ => rfl | 3, _ => rfl | n + 4, h => exact absurd h (by omega))
  have hD := hD.set (p := 6) (e := .inl (dA 0, 4, .inl (fun j => iZ (sg0 7 j)))) rfl
  have hP : va_P (dC, dI) vwCl (kX r9 dA sg0 (fun j => iZ ((fun _ => (0 : Int)) j)) (iZ ((0 : Nat) : Int)) 0) _ := hP.sub [0, 1, 2, 3, 4, 5, 6, 7, 8] rfl
  have hD : va_D (kA0 q0 s.heap.size) (kX r9 dA sg0 (fun j => iZ ((fun _ => (0 : Int)) j)) (iZ ((0 : Nat) : Int)) 0) := hD.sub [0, 1, 2, 3, 4, 5, 6, 7, 8] (by decide) rfl
  obtain ⟨hr8, hr7⟩ := kXD_QI (k := k) hD hAN
  exact W.vret hx hb hr9 (fun t ht hW => ⟨⟨rfl, r9, rfl, hr8, hr7, gX_of (n := 0) (by decide) kG_0 (Or.inl rfl) (by rw [ht]; exact hP)⟩, hS.F ht⟩) hS.2.2 dX1_init_96

abbrev ww_X1_writeText : List Cond := .code yX1_writeText cX1_writeText 6 none :: gT
set_option maxHeartbeats 4000000 in
set_option maxRecDepth 100000 in
theorem c_X1_writeText (l : Launch) (dC : Nat → ClassId) (dI : Nat → Nat → Nat) (dA : Nat → ClassId) (k : Nat → Nat) (q : Nat → Nat) (σ : Nat → Nat → Int) (H0 : Heap) (hG : gX dC dI dA q σ H0) (hOK : kOK σ) (hq : kQI q k) (zz : Int) (h0 : zz.natAbs < 10000000000000) : Met l yX1_writeText ww_X1_writeText ({ frames := 3, cells := 0, slots := 0, locals := 66 }) (va_Pc [.ref (q 0), .long (lZ (zz))] (fun U => U.heap = H0 ∧ kMJ dC dI dA k U)) (kQ2 none (gXt dC dI dA q σ zz) (kA q H0.size)) 0 0 (kA q H0.size) := by
  refine Met.ofW (cc := cX1_writeText) (maxL := 6) (ret := none) (by decide) rfl ?_
  intro p e s m args below meth c s₁ B hml hv
  obtain ⟨rfl, hH, hMJ⟩ := hv
  subst hH
  obtain ⟨g, tm, n, hn, hg, htm, hP⟩ := gX_g hG
  have hM := hMJ.1
  have hAN : ∀ a, kA q s.heap.size a → k 0 ≤ a := kA_N hq hM.2.1.1
  have hne78 : q 7 ≠ q 8 := fun z => absurd (hq.1 7 8 (by decide) (by decide) z) (by decide)
  have hk7 := hq.2 7 (by decide)
  have hk8 := hq.2 8 (by decide)
  have hS : va_S (kA q s.heap.size) s.heap s.heap [] := va_S.rf
  have hd13 := ndg_13 h0
  have hdp := ndg_pos zz.natAbs
  have hz0 : -10000000000000 < zz ∧ zz < 10000000000000 := by omega
  have hx := B.exec
  have hb := B.bytes
  have hr9 := B.returns
  have hts := atoms_spec (ws := ww_X1_writeText) B.pre
  have hown : s.vm.findClass RX1 = some m.cls := findClass_of_methodNamed B.named
  have hlocks := B.notSynchronized
  have hl := lv_entry ([.ref (q 0), .long (lZ (zz))]) (n := 6) (Nat.le_of_ble_eq_true rfl)
  rw [lg_entry_eq]
  generalize (lg_sl ([.ref (q 0), .long (lZ (zz))]) ++ List.replicate (6 - (lg_sl ([.ref (q 0), .long (lZ (zz))])).length) Slot.unset).toArray = ls at hl ⊢
  have hl : lv_has ls 6 [(0, .ref (q 0)), (1, .long (lZ (zz)))] := hl
  refine lv_aload_n hx hb dX1_writeText_0 rfl (lv_at hl 0 rfl) ?_
  refine va_get (D := (dC, dI)) (ci := 4) (v := .ref (q 7)) (C := RX1) (T := TX1) (N := 8) hx hb hts (fun w h => List.mem_cons_of_mem _ (gF_0_in h)) hown hM.1 hP 0 rfl rfl 6 (by decide) (hts _ (List.mem_cons_of_mem _ mw103)) (fun _ h9 => h9) rfl dX1_writeText_1 ?_
  refine lv_iconst (v := iZ 0) hx hb dX1_writeText_4 rfl ?_
  refine kc2 (va_runV (As := [.int (iZ 0)]) (rest := []) ⟨hx, hb, hml, hown, hts⟩ (c_J4_setLength_d00df l dC dI dA k (q 7) (q 8) (g) (tm) (n) _ (hP.sub [7, 8] rfl) htm hne78 hk7 hk8 (hg) (by omega) ) (cwV 1 hts (kg_V mw244 mw245 mw246 mw44 rfl mw247) rfl rfl rfl hdV_J4_setLength_d00df ⟨Nat.le_of_ble_eq_true rfl, Nat.le_of_ble_eq_true rfl⟩) ⟨fun a U g mk q => ⟨q.1, q.2.1, kMJ_call q.2.2⟩, va_recv hMJ.1.1 hP (ci := 1) (q0 := 7) rfl rfl, fun U hU hW => ⟨rfl, hU, kMJ_kept hMJ hS hAN hU hW⟩⟩ rfl rfl hl.1 rfl (lv_room (Nat.le_of_ble_eq_true rfl)) dX1_writeText_5 ⟨Nat.le_of_ble_eq_true rfl, Nat.le_of_ble_eq_true rfl⟩) hS (fun a _ h => kA_AB hS.1 a h) (fun a h => kA_AB hS.1 a h) (fun H1 locs hG hz9 hk9 hS => ?_)
  obtain ⟨tm_1, htm_1, hP9⟩ := hG
  have hP := kX_join hq hP hP9 hk9
  clear hP9 hk9 hz9
  generalize H1 = H at hP hS ⊢
  refine lv_lload_n hx hb dX1_writeText_8 rfl (lv_at hl 1 rfl) ?_
  refine lv_lconst (v := lZ 0) hx hb dX1_writeText_9 rfl ?_
  refine kz_lcmp_ge (tgt := 19) hx hb (by omega) (by omega) dX1_writeText_10 dX1_writeText_11 (by decide) (fun c_2 => ?_) (fun c_2 => ?_)
  · refine lv_lload_n hx hb dX1_writeText_19 rfl (lv_at hl 1 rfl) ?_
    refine lv_lstore_n (lv' := [(3, .long (lZ (zz))), (0, .ref (q 0)), (1, .long (lZ (zz)))]) hx hb dX1_writeText_20 rfl hl (by decide) rfl (fun ls hl => ?_)
    refine lv_iconst (v := iZ 0) hx hb dX1_writeText_21 rfl ?_
    refine lv_istore (lv' := [(5, .int (iZ 0)), (3, .long (lZ (zz))), (0, .ref (q 0)), (1, .long (lZ (zz)))]) hx hb dX1_writeText_22 hl (by decide) rfl (fun ls hl => ?_)
    refine k_loop3 (W := fun (H : Heap) (locs : List Loc) (ls : Array Slot) => W p l e _ s m _ below meth c H locs _ _ _ (F0 m 24 ls [])) (fun (kk : Nat) (H : Heap) (locs : List Loc) (ls : Array Slot) => lv_has ls 6 [(3, .long (lZ (((dv zz.natAbs (kk) : Nat) : Int)))), (5, .int (iZ (((kk : Nat) : Int)))), (0, .ref (q 0)), (1, .long (lZ (zz)))] ∧ (∃ (g9 : Nat → Int) (tm9 : Int32), kG g9 ∧ (tm9 = 0 ∨ tm9 = 1) ∧ (∀ j, j < kk → g9 j = 48 + ((dv zz.natAbs j % 10 : Nat) : Int)) ∧ va_P (dC, dI) vwCl (kX q dA σ (fun j => iZ (g9 j)) (iZ ((kk : Nat) : Int)) tm9) H) ∧ va_S (kA q s.heap.size) s.heap H locs) (ndg zz.natAbs) 0 (Nat.zero_le _) ⟨by have h9 := lv_sub hl [1, 0, 2, 3] rfl; rw [show lZ ((dv zz.natAbs 0 : Nat) : Int) = lZ (zz) from by unfold dv; rw [Nat.pow_zero, Nat.div_one, show ((zz.natAbs : Nat) : Int) = zz from by omega]]; exact h9, ⟨_, _, hg, htm_1, fun j hj => absurd hj (Nat.not_lt_zero j), hP⟩, hS⟩ (fun H locs ls hI => ?_) (fun kk H locs ls hk hI ih => ?_)
    · obtain ⟨hl, ⟨g_3, tm_4, hg_g_3, htm_4, ht_g_3, hP⟩, hS⟩ := hI
      have hle := kdiv_le zz.natAbs (ndg zz.natAbs)
      refine lv_iload hx hb dX1_writeText_24 (lv_at hl 1 rfl) ?_
      refine lv_bipush (v := iZ 19) hx hb dX1_writeText_26 rfl ?_
      refine kz_icmp_ge (tgt := 73) hx hb (by omega) (by omega) dX1_writeText_28 (by decide) (fun c_5 => absurd c_5 (by omega)) (fun c_5 => ?_)
      refine lv_lload_n hx hb dX1_writeText_31 rfl (lv_at hl 0 rfl) ?_
      refine lv_lconst (v := lZ 0) hx hb dX1_writeText_32 rfl ?_
      refine kz_lcmp_gt (tgt := 42) hx hb (by omega) (by omega) dX1_writeText_33 dX1_writeText_34 (by decide) (fun c_6 => absurd c_6 (by rw [kdiv_0]; decide)) (fun c_6 => ?_)
      refine lv_iload hx hb dX1_writeText_37 (lv_at hl 1 rfl) ?_
      refine kz_if_ne (tgt := 73) hx hb (by omega) dX1_writeText_39 (by decide) (fun c_7 => ?_) (fun c_7 => absurd c_7 (by omega))
      refine lv_lload_n hx hb dX1_writeText_73 rfl (lv_at hl 3 rfl) ?_
      refine lv_lconst (v := lZ 0) hx hb dX1_writeText_74 rfl ?_
      refine kz_lcmp_ge (tgt := 89) hx hb (by omega) (by omega) dX1_writeText_75 dX1_writeText_76 (by decide) (fun c_8 => ?_) (fun c_8 => ?_)
      · refine lv_aload_n hx hb dX1_writeText_89 rfl (lv_at hl 2 rfl) ?_
        refine va_get (D := (dC, dI)) (ci := 4) (v := .ref (q 7)) (C := RX1) (T := TX1) (N := 8) hx hb hts (fun w h => List.mem_cons_of_mem _ (gF_0_in h)) hown hM.1 hP 0 rfl rfl 6 (by decide) (hts _ (List.mem_cons_of_mem _ mw103)) (fun _ h9 => h9) rfl dX1_writeText_90 ?_
        refine kc2 (va_runV (As := []) (rest := []) ⟨hx, hb, hml, hown, hts⟩ (c_J4_reverse_43fcb l dC dI dA k (q 7) (q 8) (g_3) (tm_4) (ndg zz.natAbs) _ (hP.sub [7, 8] rfl) htm_4 hne78 hk7 hk8 (hg_g_3) (by omega) ) (cwV 0 hts (kg_V mw485 mw486 mw487 mw44 rfl mw488) rfl rfl rfl hdV_J4_reverse_43fcb ⟨Nat.le_of_ble_eq_true rfl, Nat.le_of_ble_eq_true rfl⟩) ⟨fun a U g mk q => ⟨q.1, q.2.1, kMJ_call q.2.2⟩, va_recv hMJ.1.1 hP (ci := 1) (q0 := 7) rfl rfl, fun U hU hW => ⟨rfl, hU, kMJ_kept hMJ hS hAN hU hW⟩⟩ rfl rfl hl.1 rfl (lv_room (Nat.le_of_ble_eq_true rfl)) dX1_writeText_93 ⟨Nat.le_of_ble_eq_true rfl, Nat.le_of_ble_eq_true rfl⟩) hS (fun a _ h => kA_AB hS.1 a h) (fun a h => kA_AB hS.1 a h) (fun H1 locs hG hz9 hk9 hS => ?_)
        obtain ⟨tm_9, htm_9, hP9⟩ := hG
        have hP := kX_join hq hP hP9 hk9
        clear hP9 hk9 hz9
        generalize H1 = H at hP hS ⊢
        refine lv_pop hx hb dX1_writeText_96 rfl ?_
        exact W.vret hx hb hr9 (fun t ht hW => ⟨⟨rfl, ⟨_, tm_9, kG_rv (hg_g_3), htm_9, TX_rev (by omega) ht_g_3, by rw [show TL zz = ndg zz.natAbs from by unfold TL; rw [if_neg (by omega)]; rfl, ht]; exact hP⟩⟩, hS.F ht⟩) hS.2.2 dX1_writeText_97
      · refine lv_aload_n hx hb dX1_writeText_79 rfl (lv_at hl 2 rfl) ?_
        refine va_get (D := (dC, dI)) (ci := 4) (v := .ref (q 7)) (C := RX1) (T := TX1) (N := 8) hx hb hts (fun w h => List.mem_cons_of_mem _ (gF_0_in h)) hown hM.1 hP 0 rfl rfl 6 (by decide) (hts _ (List.mem_cons_of_mem _ mw103)) (fun _ h9 => h9) rfl dX1_writeText_80 ?_
        refine lv_bipush (v := iZ 45) hx hb dX1_writeText_83 rfl ?_
        refine kc2 (va_runV (As := [.int (iZ 45)]) (rest := []) ⟨hx, hb, hml, hown, hts⟩ (c_J4_append_cf468 l dC dI dA k (q 7) (q 8) (g_3) (tm_4) (ndg zz.natAbs) _ (hP.sub [7, 8] rfl) htm_4 hne78 hk7 hk8 (hg_g_3) (by omega) (45) (by omega) (by omega)) (cwV 1 hts (kg_V mw463 mw464 mw465 mw44 rfl mw466) rfl rfl rfl hdV_J4_append_cf468 ⟨Nat.le_of_ble_eq_true rfl, Nat.le_of_ble_eq_true rfl⟩) ⟨fun a U g mk q => ⟨q.1, q.2.1, kMJ_call q.2.2⟩, va_recv hMJ.1.1 hP (ci := 1) (q0 := 7) rfl rfl, fun U hU hW => ⟨rfl, hU, kMJ_kept hMJ hS hAN hU hW⟩⟩ rfl rfl hl.1 rfl (lv_room (Nat.le_of_ble_eq_true rfl)) dX1_writeText_85 ⟨Nat.le_of_ble_eq_true rfl, Nat.le_of_ble_eq_true rfl⟩) hS (fun a _ h => kA_AB hS.1 a h) (fun a h => kA_AB hS.1 a h) (fun H1 locs hG hz9 hk9 hS => ?_)
        obtain ⟨tm_10, htm_10, hP9⟩ := hG
        have hP := kX_join hq hP hP9 hk9
        clear hP9 hk9 hz9
        generalize H1 = H at hP hS ⊢
        refine lv_pop hx hb dX1_writeText_88 rfl ?_
        refine lv_aload_n hx hb dX1_writeText_89 rfl (lv_at hl 2 rfl) ?_
        refine va_get (D := (dC, dI)) (ci := 4) (v := .ref (q 7)) (C := RX1) (T := TX1) (N := 8) hx hb hts (fun w h => List.mem_cons_of_mem _ (gF_0_in h)) hown hM.1 hP 0 rfl rfl 6 (by decide) (hts _ (List.mem_cons_of_mem _ mw103)) (fun _ h9 => h9) rfl dX1_writeText_90 ?_
        refine kc2 (va_runV (As := []) (rest := []) ⟨hx, hb, hml, hown, hts⟩ (c_J4_reverse_43fcb l dC dI dA k (q 7) (q 8) (gu g_3 (ndg zz.natAbs) ((45))) (tm_10) (ndg zz.natAbs + 1) _ (hP.sub [7, 8] rfl) htm_10 hne78 hk7 hk8 (kG_gu (hg_g_3) (by omega)) (by omega) ) (cwV 0 hts (kg_V mw485 mw486 mw487 mw44 rfl mw488) rfl rfl rfl hdV_J4_reverse_43fcb ⟨Nat.le_of_ble_eq_true rfl, Nat.le_of_ble_eq_true rfl⟩) ⟨fun a U g mk q => ⟨q.1, q.2.1, kMJ_call q.2.2⟩, va_recv hMJ.1.1 hP (ci := 1) (q0 := 7) rfl rfl, fun U hU hW => ⟨rfl, hU, kMJ_kept hMJ hS hAN hU hW⟩⟩ rfl rfl hl.1 rfl (lv_room (Nat.le_of_ble_eq_true rfl)) dX1_writeText_93 ⟨Nat.le_of_ble_eq_true rfl, Nat.le_of_ble_eq_true rfl⟩) hS (fun a _ h => kA_AB hS.1 a h) (fun a h => kA_AB hS.1 a h) (fun H1 locs hG hz9 hk9 hS => ?_)
        obtain ⟨tm_11, htm_11, hP9⟩ := hG
        have hP := kX_join hq hP hP9 hk9
        clear hP9 hk9 hz9
        generalize H1 = H at hP hS ⊢
        refine lv_pop hx hb dX1_writeText_96 rfl ?_
        exact W.vret hx hb hr9 (fun t ht hW => ⟨⟨rfl, ⟨_, tm_11, kG_rv (kG_gu (hg_g_3) (by omega)), htm_11, TX_revn (by omega) ht_g_3, by rw [show TL zz = ndg zz.natAbs + 1 from by unfold TL; rw [if_pos (by omega)], ht]; exact hP⟩⟩, hS.F ht⟩) hS.2.2 dX1_writeText_97
    · obtain ⟨hl, ⟨g_12, tm_13, hg_g_12, htm_13, ht_g_12, hP⟩, hS⟩ := hI
      have hle := kdiv_le zz.natAbs (kk)
      have hsc := kdiv_s zz.natAbs kk
      refine lv_iload hx hb dX1_writeText_24 (lv_at hl 1 rfl) ?_
      refine lv_bipush (v := iZ 19) hx hb dX1_writeText_26 rfl ?_
      refine kz_icmp_ge (tgt := 73) hx hb (by omega) (by omega) dX1_writeText_28 (by decide) (fun c_14 => absurd c_14 (by omega)) (fun c_14 => ?_)
      refine lv_lload_n hx hb dX1_writeText_31 rfl (lv_at hl 0 rfl) ?_
      refine lv_lconst (v := lZ 0) hx hb dX1_writeText_32 rfl ?_
      refine kz_lcmp_gt (tgt := 42) hx hb (by omega) (by omega) dX1_writeText_33 dX1_writeText_34 (by decide) (fun c_15 => ?_) (fun c_15 => ?_)
      · refine lv_aload_n hx hb dX1_writeText_42 rfl (lv_at hl 2 rfl) ?_
        refine va_get (D := (dC, dI)) (ci := 4) (v := .ref (q 7)) (C := RX1) (T := TX1) (N := 8) hx hb hts (fun w h => List.mem_cons_of_mem _ (gF_0_in h)) hown hM.1 hP 0 rfl rfl 6 (by decide) (hts _ (List.mem_cons_of_mem _ mw103)) (fun _ h9 => h9) rfl dX1_writeText_43 ?_
        refine lv_ldc2 (v := lZ 48) hx hb hown (hts _ (List.mem_cons_of_mem _ mw461)) dX1_writeText_46 ?_
        refine lv_lload_n hx hb dX1_writeText_49 rfl (lv_at hl 0 rfl) ?_
        refine lv_ldc2 (v := lZ 10) hx hb hown (hts _ (List.mem_cons_of_mem _ mw462)) dX1_writeText_50 ?_
        refine kz_lrem hx hb (by omega) (by omega) dX1_writeText_53 ?_
        refine kz_ladd hx hb dX1_writeText_54 ?_
        refine kz_l2i hx hb dX1_writeText_55 ?_
        refine lv_i2c (v := iZ (48 + ((((dv zz.natAbs (kk) : Nat) : Int)) - tq (((dv zz.natAbs (kk) : Nat) : Int)) 10 * 10))) hx hb dX1_writeText_56 (ki2c (by rw [tq_10]; omega)) ?_
        refine W.eq (g2 := F0 m 57 ls [.int (iZ (48 + ((dv zz.natAbs kk % 10 : Nat) : Int))), .ref (q 7)]) (by rw [show (48 + ((((dv zz.natAbs (kk) : Nat) : Int)) - tq (((dv zz.natAbs (kk) : Nat) : Int)) 10 * 10)) = 48 + ((dv zz.natAbs kk % 10 : Nat) : Int) from by rw [tq_10]; omega]; try rfl) ?_
        refine kc2 (va_runV (As := [.int (iZ (48 + ((dv zz.natAbs kk % 10 : Nat) : Int)))]) (rest := []) ⟨hx, hb, hml, hown, hts⟩ (c_J4_append_cf468 l dC dI dA k (q 7) (q 8) (g_12) (tm_13) (kk) _ (hP.sub [7, 8] rfl) htm_13 hne78 hk7 hk8 (hg_g_12) (by omega) (48 + ((dv zz.natAbs kk % 10 : Nat) : Int)) (by omega) (by omega)) (cwV 1 hts (kg_V mw463 mw464 mw465 mw44 rfl mw466) rfl rfl rfl hdV_J4_append_cf468 ⟨Nat.le_of_ble_eq_true rfl, Nat.le_of_ble_eq_true rfl⟩) ⟨fun a U g mk q => ⟨q.1, q.2.1, kMJ_call q.2.2⟩, va_recv hMJ.1.1 hP (ci := 1) (q0 := 7) rfl rfl, fun U hU hW => ⟨rfl, hU, kMJ_kept hMJ hS hAN hU hW⟩⟩ rfl rfl hl.1 rfl (lv_room (Nat.le_of_ble_eq_true rfl)) dX1_writeText_57 ⟨Nat.le_of_ble_eq_true rfl, Nat.le_of_ble_eq_true rfl⟩) hS (fun a _ h => kA_AB hS.1 a h) (fun a h => kA_AB hS.1 a h) (fun H1 locs hG hz9 hk9 hS => ?_)
        obtain ⟨tm_16, htm_16, hP9⟩ := hG
        have hP := kX_join hq hP hP9 hk9
        clear hP9 hk9 hz9
        generalize H1 = H at hP hS ⊢
        refine lv_pop hx hb dX1_writeText_60 rfl ?_
        refine lv_lload_n hx hb dX1_writeText_61 rfl (lv_at hl 0 rfl) ?_
        refine lv_ldc2 (v := lZ 10) hx hb hown (hts _ (List.mem_cons_of_mem _ mw462)) dX1_writeText_62 ?_
        refine kz_ldiv hx hb (by omega) (by omega) dX1_writeText_65 ?_
        refine W.eq (g2 := F0 m 66 ls [.long (lZ (((dv zz.natAbs (kk + 1) : Nat) : Int)))]) (by rw [show (tq (((dv zz.natAbs (kk) : Nat) : Int)) 10) = ((dv zz.natAbs (kk + 1) : Nat) : Int) from by rw [tq_10, hsc]]; try rfl) ?_
        refine lv_lstore_n (lv' := [(3, .long (lZ (((dv zz.natAbs (kk + 1) : Nat) : Int)))), (5, .int (iZ (((kk : Nat) : Int)))), (0, .ref (q 0)), (1, .long (lZ (zz)))]) hx hb dX1_writeText_66 rfl hl (by decide) rfl (fun ls hl => ?_)
        refine lv_iinc (v := iZ ((((kk : Nat) : Int)) + 1)) (lv' := [(5, .int (iZ ((((kk : Nat) : Int)) + 1))), (3, .long (lZ (((dv zz.natAbs (kk + 1) : Nat) : Int)))), (0, .ref (q 0)), (1, .long (lZ (zz)))]) hx hb dX1_writeText_67 hl (k := 1) rfl (iZ_add _ _) (by decide) rfl (fun ls hl => ?_)
        refine lv_goto (tgt := 24) hx hb dX1_writeText_70 (by decide) ?_
        refine ih _ _ ls ⟨by have h9 := lv_sub hl [1, 0, 2, 3] rfl; exact h9, ⟨_, _, kG_gu (hg_g_12) (by omega), htm_16, fun j hj => ?_, hP⟩, hS⟩
        unfold gu
        by_cases e9 : j = kk
        · rw [if_pos e9, e9]
        · rw [if_neg e9]; exact ht_g_12 j (by omega)
      · refine lv_iload hx hb dX1_writeText_37 (lv_at hl 1 rfl) ?_
        refine kz_if_ne (tgt := 73) hx hb (by omega) dX1_writeText_39 (by decide) (fun c_17 => absurd c_17 (by have h7 := kdiv_pos (a := zz.natAbs) (k := kk); omega)) (fun c_17 => ?_)
        refine lv_aload_n hx hb dX1_writeText_42 rfl (lv_at hl 2 rfl) ?_
        refine va_get (D := (dC, dI)) (ci := 4) (v := .ref (q 7)) (C := RX1) (T := TX1) (N := 8) hx hb hts (fun w h => List.mem_cons_of_mem _ (gF_0_in h)) hown hM.1 hP 0 rfl rfl 6 (by decide) (hts _ (List.mem_cons_of_mem _ mw103)) (fun _ h9 => h9) rfl dX1_writeText_43 ?_
        refine lv_ldc2 (v := lZ 48) hx hb hown (hts _ (List.mem_cons_of_mem _ mw461)) dX1_writeText_46 ?_
        refine lv_lload_n hx hb dX1_writeText_49 rfl (lv_at hl 0 rfl) ?_
        refine lv_ldc2 (v := lZ 10) hx hb hown (hts _ (List.mem_cons_of_mem _ mw462)) dX1_writeText_50 ?_
        refine kz_lrem hx hb (by omega) (by omega) dX1_writeText_53 ?_
        refine kz_ladd hx hb dX1_writeText_54 ?_
        refine kz_l2i hx hb dX1_writeText_55 ?_
        refine lv_i2c (v := iZ (48 + ((((dv zz.natAbs (kk) : Nat) : Int)) - tq (((dv zz.natAbs (kk) : Nat) : Int)) 10 * 10))) hx hb dX1_writeText_56 (ki2c (by rw [tq_10]; omega)) ?_
        refine W.eq (g2 := F0 m 57 ls [.int (iZ (48 + ((dv zz.natAbs kk % 10 : Nat) : Int))), .ref (q 7)]) (by rw [show (48 + ((((dv zz.natAbs (kk) : Nat) : Int)) - tq (((dv zz.natAbs (kk) : Nat) : Int)) 10 * 10)) = 48 + ((dv zz.natAbs kk % 10 : Nat) : Int) from by rw [tq_10]; omega]; try rfl) ?_
        refine kc2 (va_runV (As := [.int (iZ (48 + ((dv zz.natAbs kk % 10 : Nat) : Int)))]) (rest := []) ⟨hx, hb, hml, hown, hts⟩ (c_J4_append_cf468 l dC dI dA k (q 7) (q 8) (g_12) (tm_13) (kk) _ (hP.sub [7, 8] rfl) htm_13 hne78 hk7 hk8 (hg_g_12) (by omega) (48 + ((dv zz.natAbs kk % 10 : Nat) : Int)) (by omega) (by omega)) (cwV 1 hts (kg_V mw463 mw464 mw465 mw44 rfl mw466) rfl rfl rfl hdV_J4_append_cf468 ⟨Nat.le_of_ble_eq_true rfl, Nat.le_of_ble_eq_true rfl⟩) ⟨fun a U g mk q => ⟨q.1, q.2.1, kMJ_call q.2.2⟩, va_recv hMJ.1.1 hP (ci := 1) (q0 := 7) rfl rfl, fun U hU hW => ⟨rfl, hU, kMJ_kept hMJ hS hAN hU hW⟩⟩ rfl rfl hl.1 rfl (lv_room (Nat.le_of_ble_eq_true rfl)) dX1_writeText_57 ⟨Nat.le_of_ble_eq_true rfl, Nat.le_of_ble_eq_true rfl⟩) hS (fun a _ h => kA_AB hS.1 a h) (fun a h => kA_AB hS.1 a h) (fun H1 locs hG hz9 hk9 hS => ?_)
        obtain ⟨tm_18, htm_18, hP9⟩ := hG
        have hP := kX_join hq hP hP9 hk9
        clear hP9 hk9 hz9
        generalize H1 = H at hP hS ⊢
        refine lv_pop hx hb dX1_writeText_60 rfl ?_
        refine lv_lload_n hx hb dX1_writeText_61 rfl (lv_at hl 0 rfl) ?_
        refine lv_ldc2 (v := lZ 10) hx hb hown (hts _ (List.mem_cons_of_mem _ mw462)) dX1_writeText_62 ?_
        refine kz_ldiv hx hb (by omega) (by omega) dX1_writeText_65 ?_
        refine W.eq (g2 := F0 m 66 ls [.long (lZ (((dv zz.natAbs (kk + 1) : Nat) : Int)))]) (by rw [show (tq (((dv zz.natAbs (kk) : Nat) : Int)) 10) = ((dv zz.natAbs (kk + 1) : Nat) : Int) from by rw [tq_10, hsc]]; try rfl) ?_
        refine lv_lstore_n (lv' := [(3, .long (lZ (((dv zz.natAbs (kk + 1) : Nat) : Int)))), (5, .int (iZ (((kk : Nat) : Int)))), (0, .ref (q 0)), (1, .long (lZ (zz)))]) hx hb dX1_writeText_66 rfl hl (by decide) rfl (fun ls hl => ?_)
        refine lv_iinc (v := iZ ((((kk : Nat) : Int)) + 1)) (lv' := [(5, .int (iZ ((((kk : Nat) : Int)) + 1))), (3, .long (lZ (((dv zz.natAbs (kk + 1) : Nat) : Int)))), (0, .ref (q 0)), (1, .long (lZ (zz)))]) hx hb dX1_writeText_67 hl (k := 1) rfl (iZ_add _ _) (by decide) rfl (fun ls hl => ?_)
        refine lv_goto (tgt := 24) hx hb dX1_writeText_70 (by decide) ?_
        refine ih _ _ ls ⟨by have h9 := lv_sub hl [1, 0, 2, 3] rfl; exact h9, ⟨_, _, kG_gu (hg_g_12) (by omega), htm_18, fun j hj => ?_, hP⟩, hS⟩
        unfold gu
        by_cases e9 : j = kk
        · rw [if_pos e9, e9]
        · rw [if_neg e9]; exact ht_g_12 j (by omega)
  · refine lv_lload_n hx hb dX1_writeText_14 rfl (lv_at hl 1 rfl) ?_
    refine kz_lneg hx hb dX1_writeText_15 ?_
    refine lv_goto (tgt := 20) hx hb dX1_writeText_16 (by decide) ?_
    refine lv_lstore_n (lv' := [(3, .long (lZ (-zz))), (0, .ref (q 0)), (1, .long (lZ (zz)))]) hx hb dX1_writeText_20 rfl hl (by decide) rfl (fun ls hl => ?_)
    refine lv_iconst (v := iZ 0) hx hb dX1_writeText_21 rfl ?_
    refine lv_istore (lv' := [(5, .int (iZ 0)), (3, .long (lZ (-zz))), (0, .ref (q 0)), (1, .long (lZ (zz)))]) hx hb dX1_writeText_22 hl (by decide) rfl (fun ls hl => ?_)
    refine k_loop3 (W := fun (H : Heap) (locs : List Loc) (ls : Array Slot) => W p l e _ s m _ below meth c H locs _ _ _ (F0 m 24 ls [])) (fun (kk : Nat) (H : Heap) (locs : List Loc) (ls : Array Slot) => lv_has ls 6 [(3, .long (lZ (((dv zz.natAbs (kk) : Nat) : Int)))), (5, .int (iZ (((kk : Nat) : Int)))), (0, .ref (q 0)), (1, .long (lZ (zz)))] ∧ (∃ (g9 : Nat → Int) (tm9 : Int32), kG g9 ∧ (tm9 = 0 ∨ tm9 = 1) ∧ (∀ j, j < kk → g9 j = 48 + ((dv zz.natAbs j % 10 : Nat) : Int)) ∧ va_P (dC, dI) vwCl (kX q dA σ (fun j => iZ (g9 j)) (iZ ((kk : Nat) : Int)) tm9) H) ∧ va_S (kA q s.heap.size) s.heap H locs) (ndg zz.natAbs) 0 (Nat.zero_le _) ⟨by have h9 := lv_sub hl [1, 0, 2, 3] rfl; rw [show lZ ((dv zz.natAbs 0 : Nat) : Int) = lZ (-zz) from by unfold dv; rw [Nat.pow_zero, Nat.div_one, show ((zz.natAbs : Nat) : Int) = -zz from by omega]]; exact h9, ⟨_, _, hg, htm_1, fun j hj => absurd hj (Nat.not_lt_zero j), hP⟩, hS⟩ (fun H locs ls hI => ?_) (fun kk H locs ls hk hI ih => ?_)
    · obtain ⟨hl, ⟨g_19, tm_20, hg_g_19, htm_20, ht_g_19, hP⟩, hS⟩ := hI
      have hle := kdiv_le zz.natAbs (ndg zz.natAbs)
      refine lv_iload hx hb dX1_writeText_24 (lv_at hl 1 rfl) ?_
      refine lv_bipush (v := iZ 19) hx hb dX1_writeText_26 rfl ?_
      refine kz_icmp_ge (tgt := 73) hx hb (by omega) (by omega) dX1_writeText_28 (by decide) (fun c_21 => absurd c_21 (by omega)) (fun c_21 => ?_)
      refine lv_lload_n hx hb dX1_writeText_31 rfl (lv_at hl 0 rfl) ?_
      refine lv_lconst (v := lZ 0) hx hb dX1_writeText_32 rfl ?_
      refine kz_lcmp_gt (tgt := 42) hx hb (by omega) (by omega) dX1_writeText_33 dX1_writeText_34 (by decide) (fun c_22 => absurd c_22 (by rw [kdiv_0]; decide)) (fun c_22 => ?_)
      refine lv_iload hx hb dX1_writeText_37 (lv_at hl 1 rfl) ?_
      refine kz_if_ne (tgt := 73) hx hb (by omega) dX1_writeText_39 (by decide) (fun c_23 => ?_) (fun c_23 => absurd c_23 (by omega))
      refine lv_lload_n hx hb dX1_writeText_73 rfl (lv_at hl 3 rfl) ?_
      refine lv_lconst (v := lZ 0) hx hb dX1_writeText_74 rfl ?_
      refine kz_lcmp_ge (tgt := 89) hx hb (by omega) (by omega) dX1_writeText_75 dX1_writeText_76 (by decide) (fun c_24 => ?_) (fun c_24 => ?_)
      · refine lv_aload_n hx hb dX1_writeText_89 rfl (lv_at hl 2 rfl) ?_
        refine va_get (D := (dC, dI)) (ci := 4) (v := .ref (q 7)) (C := RX1) (T := TX1) (N := 8) hx hb hts (fun w h => List.mem_cons_of_mem _ (gF_0_in h)) hown hM.1 hP 0 rfl rfl 6 (by decide) (hts _ (List.mem_cons_of_mem _ mw103)) (fun _ h9 => h9) rfl dX1_writeText_90 ?_
        refine kc2 (va_runV (As := []) (rest := []) ⟨hx, hb, hml, hown, hts⟩ (c_J4_reverse_43fcb l dC dI dA k (q 7) (q 8) (g_19) (tm_20) (ndg zz.natAbs) _ (hP.sub [7, 8] rfl) htm_20 hne78 hk7 hk8 (hg_g_19) (by omega) ) (cwV 0 hts (kg_V mw485 mw486 mw487 mw44 rfl mw488) rfl rfl rfl hdV_J4_reverse_43fcb ⟨Nat.le_of_ble_eq_true rfl, Nat.le_of_ble_eq_true rfl⟩) ⟨fun a U g mk q => ⟨q.1, q.2.1, kMJ_call q.2.2⟩, va_recv hMJ.1.1 hP (ci := 1) (q0 := 7) rfl rfl, fun U hU hW => ⟨rfl, hU, kMJ_kept hMJ hS hAN hU hW⟩⟩ rfl rfl hl.1 rfl (lv_room (Nat.le_of_ble_eq_true rfl)) dX1_writeText_93 ⟨Nat.le_of_ble_eq_true rfl, Nat.le_of_ble_eq_true rfl⟩) hS (fun a _ h => kA_AB hS.1 a h) (fun a h => kA_AB hS.1 a h) (fun H1 locs hG hz9 hk9 hS => ?_)
        obtain ⟨tm_25, htm_25, hP9⟩ := hG
        have hP := kX_join hq hP hP9 hk9
        clear hP9 hk9 hz9
        generalize H1 = H at hP hS ⊢
        refine lv_pop hx hb dX1_writeText_96 rfl ?_
        exact W.vret hx hb hr9 (fun t ht hW => ⟨⟨rfl, ⟨_, tm_25, kG_rv (hg_g_19), htm_25, TX_rev (by omega) ht_g_19, by rw [show TL zz = ndg zz.natAbs from by unfold TL; rw [if_neg (by omega)]; rfl, ht]; exact hP⟩⟩, hS.F ht⟩) hS.2.2 dX1_writeText_97
      · refine lv_aload_n hx hb dX1_writeText_79 rfl (lv_at hl 2 rfl) ?_
        refine va_get (D := (dC, dI)) (ci := 4) (v := .ref (q 7)) (C := RX1) (T := TX1) (N := 8) hx hb hts (fun w h => List.mem_cons_of_mem _ (gF_0_in h)) hown hM.1 hP 0 rfl rfl 6 (by decide) (hts _ (List.mem_cons_of_mem _ mw103)) (fun _ h9 => h9) rfl dX1_writeText_80 ?_
        refine lv_bipush (v := iZ 45) hx hb dX1_writeText_83 rfl ?_
        refine kc2 (va_runV (As := [.int (iZ 45)]) (rest := []) ⟨hx, hb, hml, hown, hts⟩ (c_J4_append_cf468 l dC dI dA k (q 7) (q 8) (g_19) (tm_20) (ndg zz.natAbs) _ (hP.sub [7, 8] rfl) htm_20 hne78 hk7 hk8 (hg_g_19) (by omega) (45) (by omega) (by omega)) (cwV 1 hts (kg_V mw463 mw464 mw465 mw44 rfl mw466) rfl rfl rfl hdV_J4_append_cf468 ⟨Nat.le_of_ble_eq_true rfl, Nat.le_of_ble_eq_true rfl⟩) ⟨fun a U g mk q => ⟨q.1, q.2.1, kMJ_call q.2.2⟩, va_recv hMJ.1.1 hP (ci := 1) (q0 := 7) rfl rfl, fun U hU hW => ⟨rfl, hU, kMJ_kept hMJ hS hAN hU hW⟩⟩ rfl rfl hl.1 rfl (lv_room (Nat.le_of_ble_eq_true rfl)) dX1_writeText_85 ⟨Nat.le_of_ble_eq_true rfl, Nat.le_of_ble_eq_true rfl⟩) hS (fun a _ h => kA_AB hS.1 a h) (fun a h => kA_AB hS.1 a h) (fun H1 locs hG hz9 hk9 hS => ?_)
        obtain ⟨tm_26, htm_26, hP9⟩ := hG
        have hP := kX_join hq hP hP9 hk9
        clear hP9 hk9 hz9
        generalize H1 = H at hP hS ⊢
        refine lv_pop hx hb dX1_writeText_88 rfl ?_
        refine lv_aload_n hx hb dX1_writeText_89 rfl (lv_at hl 2 rfl) ?_
        refine va_get (D := (dC, dI)) (ci := 4) (v := .ref (q 7)) (C := RX1) (T := TX1) (N := 8) hx hb hts (fun w h => List.mem_cons_of_mem _ (gF_0_in h)) hown hM.1 hP 0 rfl rfl 6 (by decide) (hts _ (List.mem_cons_of_mem _ mw103)) (fun _ h9 => h9) rfl dX1_writeText_90 ?_
        refine kc2 (va_runV (As := []) (rest := []) ⟨hx, hb, hml, hown, hts⟩ (c_J4_reverse_43fcb l dC dI dA k (q 7) (q 8) (gu g_19 (ndg zz.natAbs) ((45))) (tm_26) (ndg zz.natAbs + 1) _ (hP.sub [7, 8] rfl) htm_26 hne78 hk7 hk8 (kG_gu (hg_g_19) (by omega)) (by omega) ) (cwV 0 hts (kg_V mw485 mw486 mw487 mw44 rfl mw488) rfl rfl rfl hdV_J4_reverse_43fcb ⟨Nat.le_of_ble_eq_true rfl, Nat.le_of_ble_eq_true rfl⟩) ⟨fun a U g mk q => ⟨q.1, q.2.1, kMJ_call q.2.2⟩, va_recv hMJ.1.1 hP (ci := 1) (q0 := 7) rfl rfl, fun U hU hW => ⟨rfl, hU, kMJ_kept hMJ hS hAN hU hW⟩⟩ rfl rfl hl.1 rfl (lv_room (Nat.le_of_ble_eq_true rfl)) dX1_writeText_93 ⟨Nat.le_of_ble_eq_true rfl, Nat.le_of_ble_eq_true rfl⟩) hS (fun a _ h => kA_AB hS.1 a h) (fun a h => kA_AB hS.1 a h) (fun H1 locs hG hz9 hk9 hS => ?_)
        obtain ⟨tm_27, htm_27, hP9⟩ := hG
        have hP := kX_join hq hP hP9 hk9
        clear hP9 hk9 hz9
        generalize H1 = H at hP hS ⊢
        refine lv_pop hx hb dX1_writeText_96 rfl ?_
        exact W.vret hx hb hr9 (fun t ht hW => ⟨⟨rfl, ⟨_, tm_27, kG_rv (kG_gu (hg_g_19) (by omega)), htm_27, TX_revn (by omega) ht_g_19, by rw [show TL zz = ndg zz.natAbs + 1 from by unfold TL; rw [if_pos (by omega)], ht]; exact hP⟩⟩, hS.F ht⟩) hS.2.2 dX1_writeText_97
    · obtain ⟨hl, ⟨g_28, tm_29, hg_g_28, htm_29, ht_g_28, hP⟩, hS⟩ := hI
      have hle := kdiv_le zz.natAbs (kk)
      have hsc := kdiv_s zz.natAbs kk
      refine lv_iload hx hb dX1_writeText_24 (lv_at hl 1 rfl) ?_
      refine lv_bipush (v := iZ 19) hx hb dX1_writeText_26 rfl ?_
      refine kz_icmp_ge (tgt := 73) hx hb (by omega) (by omega) dX1_writeText_28 (by decide) (fun c_30 => absurd c_30 (by omega)) (fun c_30 => ?_)
      refine lv_lload_n hx hb dX1_writeText_31 rfl (lv_at hl 0 rfl) ?_
      refine lv_lconst (v := lZ 0) hx hb dX1_writeText_32 rfl ?_
      refine kz_lcmp_gt (tgt := 42) hx hb (by omega) (by omega) dX1_writeText_33 dX1_writeText_34 (by decide) (fun c_31 => ?_) (fun c_31 => ?_)
      · refine lv_aload_n hx hb dX1_writeText_42 rfl (lv_at hl 2 rfl) ?_
        refine va_get (D := (dC, dI)) (ci := 4) (v := .ref (q 7)) (C := RX1) (T := TX1) (N := 8) hx hb hts (fun w h => List.mem_cons_of_mem _ (gF_0_in h)) hown hM.1 hP 0 rfl rfl 6 (by decide) (hts _ (List.mem_cons_of_mem _ mw103)) (fun _ h9 => h9) rfl dX1_writeText_43 ?_
        refine lv_ldc2 (v := lZ 48) hx hb hown (hts _ (List.mem_cons_of_mem _ mw461)) dX1_writeText_46 ?_
        refine lv_lload_n hx hb dX1_writeText_49 rfl (lv_at hl 0 rfl) ?_
        refine lv_ldc2 (v := lZ 10) hx hb hown (hts _ (List.mem_cons_of_mem _ mw462)) dX1_writeText_50 ?_
        refine kz_lrem hx hb (by omega) (by omega) dX1_writeText_53 ?_
        refine kz_ladd hx hb dX1_writeText_54 ?_
        refine kz_l2i hx hb dX1_writeText_55 ?_
        refine lv_i2c (v := iZ (48 + ((((dv zz.natAbs (kk) : Nat) : Int)) - tq (((dv zz.natAbs (kk) : Nat) : Int)) 10 * 10))) hx hb dX1_writeText_56 (ki2c (by rw [tq_10]; omega)) ?_
        refine W.eq (g2 := F0 m 57 ls [.int (iZ (48 + ((dv zz.natAbs kk % 10 : Nat) : Int))), .ref (q 7)]) (by rw [show (48 + ((((dv zz.natAbs (kk) : Nat) : Int)) - tq (((dv zz.natAbs (kk) : Nat) : Int)) 10 * 10)) = 48 + ((dv zz.natAbs kk % 10 : Nat) : Int) from by rw [tq_10]; omega]; try rfl) ?_
        refine kc2 (va_runV (As := [.int (iZ (48 + ((dv zz.natAbs kk % 10 : Nat) : Int)))]) (rest := []) ⟨hx, hb, hml, hown, hts⟩ (c_J4_append_cf468 l dC dI dA k (q 7) (q 8) (g_28) (tm_29) (kk) _ (hP.sub [7, 8] rfl) htm_29 hne78 hk7 hk8 (hg_g_28) (by omega) (48 + ((dv zz.natAbs kk % 10 : Nat) : Int)) (by omega) (by omega)) (cwV 1 hts (kg_V mw463 mw464 mw465 mw44 rfl mw466) rfl rfl rfl hdV_J4_append_cf468 ⟨Nat.le_of_ble_eq_true rfl, Nat.le_of_ble_eq_true rfl⟩) ⟨fun a U g mk q => ⟨q.1, q.2.1, kMJ_call q.2.2⟩, va_recv hMJ.1.1 hP (ci := 1) (q0 := 7) rfl rfl, fun U hU hW => ⟨rfl, hU, kMJ_kept hMJ hS hAN hU hW⟩⟩ rfl rfl hl.1 rfl (lv_room (Nat.le_of_ble_eq_true rfl)) dX1_writeText_57 ⟨Nat.le_of_ble_eq_true rfl, Nat.le_of_ble_eq_true rfl⟩) hS (fun a _ h => kA_AB hS.1 a h) (fun a h => kA_AB hS.1 a h) (fun H1 locs hG hz9 hk9 hS => ?_)
        obtain ⟨tm_32, htm_32, hP9⟩ := hG
        have hP := kX_join hq hP hP9 hk9
        clear hP9 hk9 hz9
        generalize H1 = H at hP hS ⊢
        refine lv_pop hx hb dX1_writeText_60 rfl ?_
        refine lv_lload_n hx hb dX1_writeText_61 rfl (lv_at hl 0 rfl) ?_
        refine lv_ldc2 (v := lZ 10) hx hb hown (hts _ (List.mem_cons_of_mem _ mw462)) dX1_writeText_62 ?_
        refine kz_ldiv hx hb (by omega) (by omega) dX1_writeText_65 ?_
        refine W.eq (g2 := F0 m 66 ls [.long (lZ (((dv zz.natAbs (kk + 1) : Nat) : Int)))]) (by rw [show (tq (((dv zz.natAbs (kk) : Nat) : Int)) 10) = ((dv zz.natAbs (kk + 1) : Nat) : Int) from by rw [tq_10, hsc]]; try rfl) ?_
        refine lv_lstore_n (lv' := [(3, .long (lZ (((dv zz.natAbs (kk + 1) : Nat) : Int)))), (5, .int (iZ (((kk : Nat) : Int)))), (0, .ref (q 0)), (1, .long (lZ (zz)))]) hx hb dX1_writeText_66 rfl hl (by decide) rfl (fun ls hl => ?_)
        refine lv_iinc (v := iZ ((((kk : Nat) : Int)) + 1)) (lv' := [(5, .int (iZ ((((kk : Nat) : Int)) + 1))), (3, .long (lZ (((dv zz.natAbs (kk + 1) : Nat) : Int)))), (0, .ref (q 0)), (1, .long (lZ (zz)))]) hx hb dX1_writeText_67 hl (k := 1) rfl (iZ_add _ _) (by decide) rfl (fun ls hl => ?_)
        refine lv_goto (tgt := 24) hx hb dX1_writeText_70 (by decide) ?_
        refine ih _ _ ls ⟨by have h9 := lv_sub hl [1, 0, 2, 3] rfl; exact h9, ⟨_, _, kG_gu (hg_g_28) (by omega), htm_32, fun j hj => ?_, hP⟩, hS⟩
        unfold gu
        by_cases e9 : j = kk
        · rw [if_pos e9, e9]
        · rw [if_neg e9]; exact ht_g_28 j (by omega)
      · refine lv_iload hx hb dX1_writeText_37 (lv_at hl 1 rfl) ?_
        refine kz_if_ne (tgt := 73) hx hb (by omega) dX1_writeText_39 (by decide) (fun c_33 => absurd c_33 (by have h7 := kdiv_pos (a := zz.natAbs) (k := kk); omega)) (fun c_33 => ?_)
        refine lv_aload_n hx hb dX1_writeText_42 rfl (lv_at hl 2 rfl) ?_
        refine va_get (D := (dC, dI)) (ci := 4) (v := .ref (q 7)) (C := RX1) (T := TX1) (N := 8) hx hb hts (fun w h => List.mem_cons_of_mem _ (gF_0_in h)) hown hM.1 hP 0 rfl rfl 6 (by decide) (hts _ (List.mem_cons_of_mem _ mw103)) (fun _ h9 => h9) rfl dX1_writeText_43 ?_
        refine lv_ldc2 (v := lZ 48) hx hb hown (hts _ (List.mem_cons_of_mem _ mw461)) dX1_writeText_46 ?_
        refine lv_lload_n hx hb dX1_writeText_49 rfl (lv_at hl 0 rfl) ?_
        refine lv_ldc2 (v := lZ 10) hx hb hown (hts _ (List.mem_cons_of_mem _ mw462)) dX1_writeText_50 ?_
        refine kz_lrem hx hb (by omega) (by omega) dX1_writeText_53 ?_
        refine kz_ladd hx hb dX1_writeText_54 ?_
        refine kz_l2i hx hb dX1_writeText_55 ?_
        refine lv_i2c (v := iZ (48 + ((((dv zz.natAbs (kk) : Nat) : Int)) - tq (((dv zz.natAbs (kk) : Nat) : Int)) 10 * 10))) hx hb dX1_writeText_56 (ki2c (by rw [tq_10]; omega)) ?_
        refine W.eq (g2 := F0 m 57 ls [.int (iZ (48 + ((dv zz.natAbs kk % 10 : Nat) : Int))), .ref (q 7)]) (by rw [show (48 + ((((dv zz.natAbs (kk) : Nat) : Int)) - tq (((dv zz.natAbs (kk) : Nat) : Int)) 10 * 10)) = 48 + ((dv zz.natAbs kk % 10 : Nat) : Int) from by rw [tq_10]; omega]; try rfl) ?_
        refine kc2 (va_runV (As := [.int (iZ (48 + ((dv zz.natAbs kk % 10 : Nat) : Int)))]) (rest := []) ⟨hx, hb, hml, hown, hts⟩ (c_J4_append_cf468 l dC dI dA k (q 7) (q 8) (g_28) (tm_29) (kk) _ (hP.sub [7, 8] rfl) htm_29 hne78 hk7 hk8 (hg_g_28) (by omega) (48 + ((dv zz.natAbs kk % 10 : Nat) : Int)) (by omega) (by omega)) (cwV 1 hts (kg_V mw463 mw464 mw465 mw44 rfl mw466) rfl rfl rfl hdV_J4_append_cf468 ⟨Nat.le_of_ble_eq_true rfl, Nat.le_of_ble_eq_true rfl⟩) ⟨fun a U g mk q => ⟨q.1, q.2.1, kMJ_call q.2.2⟩, va_recv hMJ.1.1 hP (ci := 1) (q0 := 7) rfl rfl, fun U hU hW => ⟨rfl, hU, kMJ_kept hMJ hS hAN hU hW⟩⟩ rfl rfl hl.1 rfl (lv_room (Nat.le_of_ble_eq_true rfl)) dX1_writeText_57 ⟨Nat.le_of_ble_eq_true rfl, Nat.le_of_ble_eq_true rfl⟩) hS (fun a _ h => kA_AB hS.1 a h) (fun a h => kA_AB hS.1 a h) (fun H1 locs hG hz9 hk9 hS => ?_)
        obtain ⟨tm_34, htm_34, hP9⟩ := hG
        have hP := kX_join hq hP hP9 hk9
        clear hP9 hk9 hz9
        generalize H1 = H at hP hS ⊢
        refine lv_pop hx hb dX1_writeText_60 rfl ?_
        refine lv_lload_n hx hb dX1_writeText_61 rfl (lv_at hl 0 rfl) ?_
        refine lv_ldc2 (v := lZ 10) hx hb hown (hts _ (List.mem_cons_of_mem _ mw462)) dX1_writeText_62 ?_
        refine kz_ldiv hx hb (by omega) (by omega) dX1_writeText_65 ?_
        refine W.eq (g2 := F0 m 66 ls [.long (lZ (((dv zz.natAbs (kk + 1) : Nat) : Int)))]) (by rw [show (tq (((dv zz.natAbs (kk) : Nat) : Int)) 10) = ((dv zz.natAbs (kk + 1) : Nat) : Int) from by rw [tq_10, hsc]]; try rfl) ?_
        refine lv_lstore_n (lv' := [(3, .long (lZ (((dv zz.natAbs (kk + 1) : Nat) : Int)))), (5, .int (iZ (((kk : Nat) : Int)))), (0, .ref (q 0)), (1, .long (lZ (zz)))]) hx hb dX1_writeText_66 rfl hl (by decide) rfl (fun ls hl => ?_)
        refine lv_iinc (v := iZ ((((kk : Nat) : Int)) + 1)) (lv' := [(5, .int (iZ ((((kk : Nat) : Int)) + 1))), (3, .long (lZ (((dv zz.natAbs (kk + 1) : Nat) : Int)))), (0, .ref (q 0)), (1, .long (lZ (zz)))]) hx hb dX1_writeText_67 hl (k := 1) rfl (iZ_add _ _) (by decide) rfl (fun ls hl => ?_)
        refine lv_goto (tgt := 24) hx hb dX1_writeText_70 (by decide) ?_
        refine ih _ _ ls ⟨by have h9 := lv_sub hl [1, 0, 2, 3] rfl; exact h9, ⟨_, _, kG_gu (hg_g_28) (by omega), htm_34, fun j hj => ?_, hP⟩, hS⟩
        unfold gu
        by_cases e9 : j = kk
        · rw [if_pos e9, e9]
        · rw [if_neg e9]; exact ht_g_28 j (by omega)

