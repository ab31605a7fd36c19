/-! the calendar in numbers -/
def leap (y : Int) : Bool := decide (y % 400 = 0 ∨ (y % 4 = 0 ∧ ¬ y % 100 = 0))
def ylen (y : Int) : Int := if leap y = true then 366 else 365
def mlen (b : Bool) (m : Int) : Int := if m = 2 then (if b = true then 29 else 28) else if m = 4 ∨ m = 6 ∨ m = 9 ∨ m = 11 then 30 else 31
def side (y : Int) : Int := if 0 < y then 1 else 0
def rank (y : Int) : Int := if 0 < y then y else 1 - y
def ranked (r sd : Int) : Int := if sd = 1 then r else 1 - r
/-- days ahead of the month n + 1 -/
def aheadN (b : Bool) : Nat → Int | 0 => 0 | n + 1 => aheadN b n + mlen b (n + 1)
def ahead (b : Bool) (m : Int) : Int := aheadN b (m - 1).toNat
def yearOf (c : Int) : Int := c / 12
def monOf (c : Int) : Int := 1 + c % 12
/-- NUMBER of the day d of the month m of the year y -/
def dnum (y m d : Int) : Int := -719528 + 365 * y + ((y - 1) / 4 - (y - 1) / 100 + (y - 1) / 400 + 1) + ahead (leap y) m + d - 1
def usize (u : Int) : Int := if u = 0 then 1 else if u = 1 then 12 else if u = 2 then 120 else if u = 3 then 1200 else 12000
theorem tq_pos {x y : Int} (h : 0 ≤ x) : tq x y = x / y := if_pos h
theorem tq_neg {x y : Int} (h : ¬ 0 ≤ x) : tq x y = -((-x) / y) := if_neg h
theorem tq4 (x : Int) : x - tq x 4 * 4 = 0 ↔ x % 4 = 0 := by unfold tq; split <;> omega
theorem tq100 (x : Int) : x - tq x 100 * 100 = 0 ↔ x % 100 = 0 := by unfold tq; split <;> omega
theorem tq400 (x : Int) : x - tq x 400 * 400 = 0 ↔ x % 400 = 0 := by unfold tq; split <;> omega
theorem tq_split {x y : Int} (hy : 0 < y) : ∃ q r : Int, (if 0 ≤ x then x else -x) = y * q + r ∧ 0 ≤ r ∧ r < y ∧ 0 ≤ q ∧ tq x y = (if 0 ≤ x then q else -q) := by
  have h1 := Int.mul_ediv_add_emod (if 0 ≤ x then x else -x) y
  have h2 := Int.emod_nonneg (if 0 ≤ x then x else -x) (show y ≠ 0 by omega)
  have h3 := Int.emod_lt_of_pos (if 0 ≤ x then x else -x) hy
  have h4 : 0 ≤ (if 0 ≤ x then x else -x) / y := Int.ediv_nonneg (by split <;> omega) (by omega)
  refine ⟨_, _, h1.symm, h2, h3, h4, ?_⟩
  unfold tq
  by_cases h : 0 ≤ x
  · simp only [if_pos h]
  · simp only [if_neg h]
theorem tq_mul {x y : Int} (hy : 0 < y) : (0 ≤ x → 0 ≤ tq x y * y ∧ tq x y * y ≤ x ∧ x - y < tq x y * y ∧ (x - tq x y * y) = x % y) ∧ (x < 0 → tq x y * y ≤ 0 ∧ x ≤ tq x y * y ∧ tq x y * y < x + y) := by
  obtain ⟨q, r, h1, h2, h3, h4, h5⟩ := tq_split (x := x) hy
  have h6 : 0 ≤ y * q := Int.mul_nonneg (by omega) h4
  constructor
  · intro h
    rw [if_pos h] at h1 h5
    rw [h5, Int.mul_comm q y]
    refine ⟨by omega, by omega, by omega, ?_⟩
    have h8 : x % y = r := by
      rw [h1, Int.add_comm, Int.add_mul_emod_self_left]
      exact Int.emod_eq_of_lt h2 h3
    rw [h8]; omega
  · intro h
    rw [if_neg (by omega)] at h1 h5
    rw [h5, Int.neg_mul, Int.mul_comm q y]
    omega
theorem tq_floor {x y : Int} (hy : 0 < y) : (0 ≤ x → x / y = tq x y) ∧ (x < 0 → (tq x y * y = x → x / y = tq x y ∧ x % y = 0) ∧ (¬ tq x y * y = x → x / y = tq x y - 1 ∧ x % y = x - tq x y * y + y)) := by
  obtain ⟨q, r, h1, h2, h3, h4, h5⟩ := tq_split (x := x) hy
  have hne : y ≠ 0 := by omega
  constructor
  · intro h
    exact (tq_pos h).symm
  · intro h
    rw [if_neg (by omega)] at h1 h5
    have hq : tq x y * y = -(y * q) := by rw [h5, Int.neg_mul, Int.mul_comm q y]
    constructor
    · intro e
      have hr : r = 0 := by omega
      have hx : x = y * (-q) := by rw [Int.mul_neg]; omega
      constructor
      · rw [h5, hx, Int.mul_ediv_cancel_left _ hne]
      · rw [hx, Int.mul_emod_right]
    · intro e
      have hr : ¬ r = 0 := fun z => e (by omega)
      have hx : x = (y - r) + y * (-q - 1) := by rw [Int.mul_sub, Int.mul_neg]; omega
      constructor
      · rw [h5, hx, Int.add_mul_ediv_left _ _ hne, Int.ediv_eq_zero_of_lt (by omega) (by omega)]; omega
      · have h9 : x % y = y - r := by
          rw [hx, Int.add_mul_emod_self_left]
          exact Int.emod_eq_of_lt (by omega) (by omega)
        rw [h9, hq]; omega
theorem xor_sgnL (a b : Int64) : 0 ≤ (a ^^^ b).toInt ↔ (0 ≤ a.toInt ↔ 0 ≤ b.toInt) := by
  have h : ∀ z : Int64, (0 ≤ z.toInt) ↔ z.toBitVec.msb = false := fun z => by
    show 0 ≤ z.toBitVec.toInt ↔ _
    rw [BitVec.msb_eq_toInt]; simp
  rw [h, h, h, Int64.toBitVec_xor, BitVec.msb_xor]
  cases a.toBitVec.msb <;> cases b.toBitVec.msb <;> simp
theorem xor_sgnI (a b : Int32) : 0 ≤ (a ^^^ b).toInt ↔ (0 ≤ a.toInt ↔ 0 ≤ b.toInt) := by
  have h : ∀ z : Int32, (0 ≤ z.toInt) ↔ z.toBitVec.msb = false := fun z => by
    show 0 ≤ z.toBitVec.toInt ↔ _
    rw [BitVec.msb_eq_toInt]; simp
  rw [h, h, h, Int32.toBitVec_xor, BitVec.msb_xor]
  cases a.toBitVec.msb <;> cases b.toBitVec.msb <;> simp
section
variable {p : Program} {l : Launch} {e : Env} {R : Room} {s : State} {m : MethodId} {args : Array Value} {below : List Frame} {meth : Method} {c : Code} {H : Heap} {locs : List Loc} {cells slots : Nat} {Q : State → Prop}
variable {cc : ByteArray} {pc : Nat} {ls : Array Slot} {rest : List Value}
theorem kz_lxor (hx : p.tables.exec = Jvm.exec) (hb : c.code = cc) {x y : Int} (h1 : -9223372036854775808 ≤ x ∧ x < 9223372036854775808) (h2 : 0 < y ∧ y < 9223372036854775808) (hdg : decode cc pc = .ok (.lxor, 1)) (k : ∀ z : Int, (-9223372036854775808 ≤ z ∧ z < 9223372036854775808) → (0 ≤ z ↔ 0 ≤ x) → W p l e R s m args below meth c H locs cells slots Q (F0 m (pc + 1) ls (.long (lZ z) :: rest))) : W p l e R s m args below meth c H locs cells slots Q (F0 m pc ls (.long (lZ y) :: .long (lZ x) :: rest)) := by
  refine lv_lxor hx hb hdg ?_
  obtain ⟨z, hz, e⟩ := lZ_of (lZ x ^^^ lZ y)
  have h3 := xor_sgnL (lZ x) (lZ y)
  rw [e, lZ_toInt hz, lZ_toInt h1, lZ_toInt (z := y) ⟨by omega, by omega⟩] at h3
  rw [e]
  exact k z hz (by omega)
theorem kz_ixor (hx : p.tables.exec = Jvm.exec) (hb : c.code = cc) {x y : Int} (h1 : -2147483648 ≤ x ∧ x < 2147483648) (h2 : 0 < y ∧ y < 2147483648) (hdg : decode cc pc = .ok (.ixor, 1)) (k : ∀ z : Int, (-2147483648 ≤ z ∧ z < 2147483648) → (0 ≤ z ↔ 0 ≤ x) → W p l e R s m args below meth c H locs cells slots Q (F0 m (pc + 1) ls (.int (iZ z) :: rest))) : W p l e R s m args below meth c H locs cells slots Q (F0 m pc ls (.int (iZ y) :: .int (iZ x) :: rest)) := by
  refine lv_ixor hx hb hdg ?_
  obtain ⟨z, hz, e⟩ := iZ_of (iZ x ^^^ iZ y)
  have h3 := xor_sgnI (iZ x) (iZ y)
  rw [e, iZ_toInt hz, iZ_toInt h1, iZ_toInt (z := y) ⟨by omega, by omega⟩] at h3
  rw [e]
  exact k z hz (by omega)
end
theorem bZ_d1 {P : Prop} [Decidable P] (h : P) : (1 : Int) = bZ (decide P) := by rw [decide_eq_true h]; rfl
theorem bZ_d0 {P : Prop} [Decidable P] (h : ¬ P) : (0 : Int) = bZ (decide P) := by rw [decide_eq_false h]; rfl
theorem bZ_1 {b : Bool} (h : b = true) : (1 : Int) = bZ b := by rw [h]; rfl
theorem bZ_0 {b : Bool} (h : b = false) : (0 : Int) = bZ b := by rw [h]; rfl
theorem mlen_rng (b : Bool) (m : Int) : 28 ≤ mlen b m ∧ mlen b m ≤ 31 := by unfold mlen; split <;> (try split) <;> omega
abbrev ww_J9_floorDiv_f86c9 : List Cond := .code yJ9_floorDiv_f86c9 cJ9_floorDiv_f86c9 6 (some .long) :: gT
set_option maxHeartbeats 4000000 in
set_option maxRecDepth 100000 in
/-- J9_floorDiv_f86c9 -/
theorem c_J9_floorDiv_f86c9 (l : Launch) (H0 : Heap) (x : Int) (y : Int) (hx0 : -9223372036854775808 ≤ x ∧ x < 9223372036854775808) (hy0 : 0 < y ∧ y < 1000000) : Met l yJ9_floorDiv_f86c9 ww_J9_floorDiv_f86c9 ({ frames := 0, cells := 0, slots := 0, locals := 0 }) (va_Pc [.long (lZ (x)), .long (lZ (y))] (fun U => U.heap = H0)) (kQ0 (some (.long (lZ (x / y)))) H0) 0 0 kN := by
  refine va_MetF (cc := cJ9_floorDiv_f86c9) (maxL := 6) (ret := (some .long)) (by decide +kernel) rfl ?_
  intro p e s m args below meth c s₁ B hml hv
  obtain ⟨rfl, hH⟩ := hv
  subst hH
  have hx := B.exec
  have hb := B.bytes
  have hr := B.returns
  have hts := atoms_spec (ws := ww_J9_floorDiv_f86c9) B.pre
  have hown : s.vm.findClass RJ9 = some m.cls := findClass_of_methodNamed B.named
  have hlocks := B.notSynchronized
  have hl := lv_entry ([.long (lZ (x)), .long (lZ (y))]) (n := 6) (Nat.le_of_ble_eq_true rfl)
  rw [lg_entry_eq]
  generalize (lg_sl ([.long (lZ (x)), .long (lZ (y))]) ++ List.replicate (6 - (lg_sl ([.long (lZ (x)), .long (lZ (y))])).length) Slot.unset).toArray = ls at hl ⊢
  have hl : lv_has ls 6 [(0, .long (lZ (x))), (2, .long (lZ (y)))] := hl
  refine lv_lload_n hx hb dJ9_floorDiv_f86c9_0 rfl (lv_at hl 0 rfl) ?_
  refine lv_lload_n hx hb dJ9_floorDiv_f86c9_1 rfl (lv_at hl 1 rfl) ?_
  refine kz_ldiv hx hb (by omega) (by omega) dJ9_floorDiv_f86c9_2 ?_
  refine lv_lstore (lv' := [(4, .long (lZ (tq x y))), (0, .long (lZ (x))), (2, .long (lZ (y)))]) hx hb dJ9_floorDiv_f86c9_3 hl (by decide) rfl (fun ls hl => ?_)
  refine lv_lload_n hx hb dJ9_floorDiv_f86c9_5 rfl (lv_at hl 1 rfl) ?_
  refine lv_lload_n hx hb dJ9_floorDiv_f86c9_6 rfl (lv_at hl 2 rfl) ?_
  refine kz_lxor hx hb (by omega) (by omega) dJ9_floorDiv_f86c9_7 (fun z_1 rz_1 gz_1 => ?_)
  refine lv_lconst (v := lZ 0) hx hb dJ9_floorDiv_f86c9_8 rfl ?_
  refine kz_lcmp_ge (tgt := 27) hx hb (by omega) (by omega) dJ9_floorDiv_f86c9_9 dJ9_floorDiv_f86c9_10 (by decide) (fun c_2 => ?_) (fun c_2 => ?_)
  · refine lv_lload hx hb dJ9_floorDiv_f86c9_27 (lv_at hl 0 rfl) ?_
    exact W.lret (v := lZ (tq x y)) hx hb hr (fun t ht hW => ⟨congrArg (fun z : Int => Outcome.returned (some (Value.long (lZ z)))) (show (tq x y) = (x / y) from by have q := tq_floor (x := x) (y := y) (by omega); have q2 := tq_mul (x := x) (y := y) (by omega); omega), ht⟩) (fun q h => by cases h) dJ9_floorDiv_f86c9_29
  · refine lv_lload hx hb dJ9_floorDiv_f86c9_13 (lv_at hl 0 rfl) ?_
    refine lv_lload_n hx hb dJ9_floorDiv_f86c9_15 rfl (lv_at hl 2 rfl) ?_
    refine kz_lmul hx hb dJ9_floorDiv_f86c9_16 ?_
    refine lv_lload_n hx hb dJ9_floorDiv_f86c9_17 rfl (lv_at hl 1 rfl) ?_
    refine kz_lcmp_eq (tgt := 27) hx hb (by have q2 := tq_mul (x := x) (y := y) (by omega); omega) (by have q2 := tq_mul (x := x) (y := y) (by omega); omega) dJ9_floorDiv_f86c9_18 dJ9_floorDiv_f86c9_19 (by decide) (fun c_3 => ?_) (fun c_3 => ?_)
    · refine lv_lload hx hb dJ9_floorDiv_f86c9_27 (lv_at hl 0 rfl) ?_
      exact W.lret (v := lZ (tq x y)) hx hb hr (fun t ht hW => ⟨congrArg (fun z : Int => Outcome.returned (some (Value.long (lZ z)))) (show (tq x y) = (x / y) from by have q := tq_floor (x := x) (y := y) (by omega); have q2 := tq_mul (x := x) (y := y) (by omega); omega), ht⟩) (fun q h => by cases h) dJ9_floorDiv_f86c9_29
    · refine lv_lload hx hb dJ9_floorDiv_f86c9_22 (lv_at hl 0 rfl) ?_
      refine lv_lconst (v := lZ 1) hx hb dJ9_floorDiv_f86c9_24 rfl ?_
      refine kz_lsub hx hb dJ9_floorDiv_f86c9_25 ?_
      exact W.lret (v := lZ ((tq x y) - 1)) hx hb hr (fun t ht hW => ⟨congrArg (fun z : Int => Outcome.returned (some (Value.long (lZ z)))) (show ((tq x y) - 1) = (x / y) from by have q := tq_floor (x := x) (y := y) (by omega); have q2 := tq_mul (x := x) (y := y) (by omega); omega), ht⟩) (fun q h => by cases h) dJ9_floorDiv_f86c9_26

abbrev ww_J9_floorMod_f86c9 : List Cond := .code yJ9_floorMod_f86c9 cJ9_floorMod_f86c9 6 (some .long) :: gT
set_option maxHeartbeats 4000000 in
set_option maxRecDepth 100000 in
/-- J9_floorMod_f86c9 -/
theorem c_J9_floorMod_f86c9 (l : Launch) (H0 : Heap) (x : Int) (y : Int) (hx0 : -9223372036854775808 ≤ x ∧ x < 9223372036854775808) (hy0 : 0 < y ∧ y < 1000000) : Met l yJ9_floorMod_f86c9 ww_J9_floorMod_f86c9 ({ frames := 0, cells := 0, slots := 0, locals := 0 }) (va_Pc [.long (lZ (x)), .long (lZ (y))] (fun U => U.heap = H0)) (kQ0 (some (.long (lZ (x % y)))) H0) 0 0 kN := by
  refine va_MetF (cc := cJ9_floorMod_f86c9) (maxL := 6) (ret := (some .long)) (by decide +kernel) rfl ?_
  intro p e s m args below meth c s₁ B hml hv
  obtain ⟨rfl, hH⟩ := hv
  subst hH
  have hx := B.exec
  have hb := B.bytes
  have hr := B.returns
  have hts := atoms_spec (ws := ww_J9_floorMod_f86c9) B.pre
  have hown : s.vm.findClass RJ9 = some m.cls := findClass_of_methodNamed B.named
  have hlocks := B.notSynchronized
  have hl := lv_entry ([.long (lZ (x)), .long (lZ (y))]) (n := 6) (Nat.le_of_ble_eq_true rfl)
  rw [lg_entry_eq]
  generalize (lg_sl ([.long (lZ (x)), .long (lZ (y))]) ++ List.replicate (6 - (lg_sl ([.long (lZ (x)), .long (lZ (y))])).length) Slot.unset).toArray = ls at hl ⊢
  have hl : lv_has ls 6 [(0, .long (lZ (x))), (2, .long (lZ (y)))] := hl
  refine lv_lload_n hx hb dJ9_floorMod_f86c9_0 rfl (lv_at hl 0 rfl) ?_
  refine lv_lload_n hx hb dJ9_floorMod_f86c9_1 rfl (lv_at hl 1 rfl) ?_
  refine kz_lrem hx hb (by omega) (by omega) dJ9_floorMod_f86c9_2 ?_
  refine lv_lstore (lv' := [(4, .long (lZ (x - tq x y * y))), (0, .long (lZ (x))), (2, .long (lZ (y)))]) hx hb dJ9_floorMod_f86c9_3 hl (by decide) rfl (fun ls hl => ?_)
  refine lv_lload_n hx hb dJ9_floorMod_f86c9_5 rfl (lv_at hl 1 rfl) ?_
  refine lv_lload_n hx hb dJ9_floorMod_f86c9_6 rfl (lv_at hl 2 rfl) ?_
  refine kz_lxor hx hb (by omega) (by omega) dJ9_floorMod_f86c9_7 (fun z_1 rz_1 gz_1 => ?_)
  refine lv_lconst (v := lZ 0) hx hb dJ9_floorMod_f86c9_8 rfl ?_
  refine kz_lcmp_ge (tgt := 25) hx hb (by omega) (by omega) dJ9_floorMod_f86c9_9 dJ9_floorMod_f86c9_10 (by decide) (fun c_2 => ?_) (fun c_2 => ?_)
  · refine lv_lload hx hb dJ9_floorMod_f86c9_25 (lv_at hl 0 rfl) ?_
    exact W.lret (v := lZ (x - tq x y * y)) hx hb hr (fun t ht hW => ⟨congrArg (fun z : Int => Outcome.returned (some (Value.long (lZ z)))) (show (x - tq x y * y) = (x % y) from by have q := tq_floor (x := x) (y := y) (by omega); have q2 := tq_mul (x := x) (y := y) (by omega); omega), ht⟩) (fun q h => by cases h) dJ9_floorMod_f86c9_27
  · refine lv_lload hx hb dJ9_floorMod_f86c9_13 (lv_at hl 0 rfl) ?_
    refine lv_lconst (v := lZ 0) hx hb dJ9_floorMod_f86c9_15 rfl ?_
    refine kz_lcmp_eq (tgt := 25) hx hb (by have q2 := tq_mul (x := x) (y := y) (by omega); omega) (by have q2 := tq_mul (x := x) (y := y) (by omega); omega) dJ9_floorMod_f86c9_16 dJ9_floorMod_f86c9_17 (by decide) (fun c_3 => ?_) (fun c_3 => ?_)
    · refine lv_lload hx hb dJ9_floorMod_f86c9_25 (lv_at hl 0 rfl) ?_
      exact W.lret (v := lZ (x - tq x y * y)) hx hb hr (fun t ht hW => ⟨congrArg (fun z : Int => Outcome.returned (some (Value.long (lZ z)))) (show (x - tq x y * y) = (x % y) from by have q := tq_floor (x := x) (y := y) (by omega); have q2 := tq_mul (x := x) (y := y) (by omega); omega), ht⟩) (fun q h => by cases h) dJ9_floorMod_f86c9_27
    · refine lv_lload hx hb dJ9_floorMod_f86c9_20 (lv_at hl 0 rfl) ?_
      refine lv_lload_n hx hb dJ9_floorMod_f86c9_22 rfl (lv_at hl 2 rfl) ?_
      refine kz_ladd hx hb dJ9_floorMod_f86c9_23 ?_
      exact W.lret (v := lZ ((x - tq x y * y) + y)) hx hb hr (fun t ht hW => ⟨congrArg (fun z : Int => Outcome.returned (some (Value.long (lZ z)))) (show ((x - tq x y * y) + y) = (x % y) from by have q := tq_floor (x := x) (y := y) (by omega); have q2 := tq_mul (x := x) (y := y) (by omega); omega), ht⟩) (fun q h => by cases h) dJ9_floorMod_f86c9_24

abbrev ww_J9_floorMod_7cf53 : List Cond := .code yJ9_floorMod_7cf53 cJ9_floorMod_7cf53 3 (some .int) :: gT
set_option maxHeartbeats 4000000 in
set_option maxRecDepth 100000 in
/-- J9_floorMod_7cf53 -/
theorem c_J9_floorMod_7cf53 (l : Launch) (H0 : Heap) (x : Int) (y : Int) (hx0 : -2147483648 ≤ x ∧ x < 2147483648) (hy0 : 0 < y ∧ y < 1000000) : Met l yJ9_floorMod_7cf53 ww_J9_floorMod_7cf53 ({ frames := 0, cells := 0, slots := 0, locals := 0 }) (va_Pc [.int (iZ x), .int (iZ y)] (fun U => U.heap = H0)) (kQ0 (some (.int (iZ (x % y)))) H0) 0 0 kN := by
  refine va_MetF (cc := cJ9_floorMod_7cf53) (maxL := 3) (ret := (some .int)) (by decide +kernel) rfl ?_
  intro p e s m args below meth c s₁ B hml hv
  obtain ⟨rfl, hH⟩ := hv
  subst hH
  have hx := B.exec
  have hb := B.bytes
  have hr := B.returns
  have hts := atoms_spec (ws := ww_J9_floorMod_7cf53) B.pre
  have hown : s.vm.findClass RJ9 = some m.cls := findClass_of_methodNamed B.named
  have hlocks := B.notSynchronized
  have hl := lv_entry ([.int (iZ x), .int (iZ y)]) (n := 3) (Nat.le_of_ble_eq_true rfl)
  rw [lg_entry_eq]
  generalize (lg_sl ([.int (iZ x), .int (iZ y)]) ++ List.replicate (3 - (lg_sl ([.int (iZ x), .int (iZ y)])).length) Slot.unset).toArray = ls at hl ⊢
  have hl : lv_has ls 3 [(0, .int (iZ x)), (1, .int (iZ y))] := hl
  refine lv_iload_n hx hb dJ9_floorMod_7cf53_0 rfl (lv_at hl 0 rfl) ?_
  refine lv_iload_n hx hb dJ9_floorMod_7cf53_1 rfl (lv_at hl 1 rfl) ?_
  refine kz_irem hx hb (by omega) (by omega) dJ9_floorMod_7cf53_2 ?_
  refine lv_istore_n (lv' := [(2, .int (iZ (x - tq x y * y))), (0, .int (iZ x)), (1, .int (iZ y))]) hx hb dJ9_floorMod_7cf53_3 rfl hl (by decide) rfl (fun ls hl => ?_)
  refine lv_iload_n hx hb dJ9_floorMod_7cf53_4 rfl (lv_at hl 1 rfl) ?_
  refine lv_iload_n hx hb dJ9_floorMod_7cf53_5 rfl (lv_at hl 2 rfl) ?_
  refine kz_ixor hx hb (by omega) (by omega) dJ9_floorMod_7cf53_6 (fun z_1 rz_1 gz_1 => ?_)
  refine kz_if_ge (tgt := 18) hx hb (by omega) dJ9_floorMod_7cf53_7 (by decide) (fun c_2 => ?_) (fun c_2 => ?_)
  · refine lv_iload_n hx hb dJ9_floorMod_7cf53_18 rfl (lv_at hl 0 rfl) ?_
    exact W.iret (v := iZ (x - tq x y * y)) hx hb hr (fun t ht hW => ⟨congrArg (fun z : Int => Outcome.returned (some (Value.int (iZ z)))) (show (x - tq x y * y) = (x % y) from by have q := tq_floor (x := x) (y := y) (by omega); have q2 := tq_mul (x := x) (y := y) (by omega); omega), ht⟩) (fun q h => by cases h) dJ9_floorMod_7cf53_19
  · refine lv_iload_n hx hb dJ9_floorMod_7cf53_10 rfl (lv_at hl 0 rfl) ?_
    refine kz_if_eq (tgt := 18) hx hb (by have q2 := tq_mul (x := x) (y := y) (by omega); omega) dJ9_floorMod_7cf53_11 (by decide) (fun c_3 => ?_) (fun c_3 => ?_)
    · refine lv_iload_n hx hb dJ9_floorMod_7cf53_18 rfl (lv_at hl 0 rfl) ?_
      exact W.iret (v := iZ (x - tq x y * y)) hx hb hr (fun t ht hW => ⟨congrArg (fun z : Int => Outcome.returned (some (Value.int (iZ z)))) (show (x - tq x y * y) = (x % y) from by have q := tq_floor (x := x) (y := y) (by omega); have q2 := tq_mul (x := x) (y := y) (by omega); omega), ht⟩) (fun q h => by cases h) dJ9_floorMod_7cf53_19
    · refine lv_iload_n hx hb dJ9_floorMod_7cf53_14 rfl (lv_at hl 0 rfl) ?_
      refine lv_iload_n hx hb dJ9_floorMod_7cf53_15 rfl (lv_at hl 2 rfl) ?_
      refine kz_iadd hx hb dJ9_floorMod_7cf53_16 ?_
      exact W.iret (v := iZ ((x - tq x y * y) + y)) hx hb hr (fun t ht hW => ⟨congrArg (fun z : Int => Outcome.returned (some (Value.int (iZ z)))) (show ((x - tq x y * y) + y) = (x % y) from by have q := tq_floor (x := x) (y := y) (by omega); have q2 := tq_mul (x := x) (y := y) (by omega); omega), ht⟩) (fun q h => by cases h) dJ9_floorMod_7cf53_17

abbrev ww_X0_isLeapNumber : List Cond := .code yX0_isLeapNumber cX0_isLeapNumber 2 (some .boolean) :: gT
set_option maxHeartbeats 4000000 in
set_option maxRecDepth 100000 in
/-- X0_isLeapNumber -/
theorem c_X0_isLeapNumber (l : Launch) (H0 : Heap) (y : Int) (hy : -9223372036854775808 ≤ y ∧ y < 9223372036854775808) : Met l yX0_isLeapNumber ww_X0_isLeapNumber ({ frames := 0, cells := 0, slots := 0, locals := 0 }) (va_Pc [.long (lZ (y))] (fun U => U.heap = H0)) (kQ0 (some (.int (iZ (bZ (leap y))))) H0) 0 0 kN := by
  refine Met.ofW (cc := cX0_isLeapNumber) (maxL := 2) (ret := (some .boolean)) (by decide) rfl ?_
  intro p e s m args below meth c s₁ B hml hv
  obtain ⟨rfl, hH⟩ := hv
  subst hH
  have hx := B.exec
  have hb := B.bytes
  have hr := B.returns
  have hts := atoms_spec (ws := ww_X0_isLeapNumber) B.pre
  have hown : s.vm.findClass RX0 = some m.cls := findClass_of_methodNamed B.named
  have hlocks := B.notSynchronized
  have hl := lv_entry ([.long (lZ (y))]) (n := 2) (Nat.le_of_ble_eq_true rfl)
  rw [lg_entry_eq]
  generalize (lg_sl ([.long (lZ (y))]) ++ List.replicate (2 - (lg_sl ([.long (lZ (y))])).length) Slot.unset).toArray = ls at hl ⊢
  have hl : lv_has ls 2 [(0, .long (lZ (y)))] := hl
  refine lv_lload_n hx hb dX0_isLeapNumber_0 rfl (lv_at hl 0 rfl) ?_
  refine lv_ldc2 (v := lZ 400) hx hb hown (hts _ (List.mem_cons_of_mem _ mw112)) dX0_isLeapNumber_1 ?_
  refine kz_lrem hx hb (by first | omega | (unfold tq; split <;> omega)) (by omega) dX0_isLeapNumber_4 ?_
  refine lv_lconst (v := lZ 0) hx hb dX0_isLeapNumber_5 rfl ?_
  refine kz_lcmp_eq (tgt := 30) hx hb (by first | omega | (unfold tq; split <;> omega)) (by first | omega | (unfold tq; split <;> omega)) dX0_isLeapNumber_6 dX0_isLeapNumber_7 (by decide) (fun c_1 => ?_) (fun c_1 => ?_)
  · refine lv_iconst (v := iZ 1) hx hb dX0_isLeapNumber_30 rfl ?_
    refine lv_goto (tgt := 35) hx hb dX0_isLeapNumber_31 (by decide) ?_
    exact W.zret (v := iZ 1) (ty := .boolean) hx hb hr rfl (fun t ht hW => ⟨congrArg (fun z : Int => Outcome.returned (some (Value.int (iZ z)))) (show 1 = (bZ (leap y)) from by unfold leap; have q1 := tq400 y; have q2 := tq4 y; have q3 := tq100 y; exact bZ_d1 (by omega)), ht⟩) (fun q h => by cases h) dX0_isLeapNumber_35
  · refine lv_lload_n hx hb dX0_isLeapNumber_10 rfl (lv_at hl 0 rfl) ?_
    refine lv_ldc2 (v := lZ 4) hx hb hown (hts _ (List.mem_cons_of_mem _ mw113)) dX0_isLeapNumber_11 ?_
    refine kz_lrem hx hb (by first | omega | (unfold tq; split <;> omega)) (by omega) dX0_isLeapNumber_14 ?_
    refine lv_lconst (v := lZ 0) hx hb dX0_isLeapNumber_15 rfl ?_
    refine kz_lcmp_ne (tgt := 34) hx hb (by first | omega | (unfold tq; split <;> omega)) (by first | omega | (unfold tq; split <;> omega)) dX0_isLeapNumber_16 dX0_isLeapNumber_17 (by decide) (fun c_2 => ?_) (fun c_2 => ?_)
    · refine lv_iconst (v := iZ 0) hx hb dX0_isLeapNumber_34 rfl ?_
      exact W.zret (v := iZ 0) (ty := .boolean) hx hb hr rfl (fun t ht hW => ⟨congrArg (fun z : Int => Outcome.returned (some (Value.int (iZ z)))) (show 0 = (bZ (leap y)) from by unfold leap; have q1 := tq400 y; have q2 := tq4 y; have q3 := tq100 y; exact bZ_d0 (by omega)), ht⟩) (fun q h => by cases h) dX0_isLeapNumber_35
    · refine lv_lload_n hx hb dX0_isLeapNumber_20 rfl (lv_at hl 0 rfl) ?_
      refine lv_ldc2 (v := lZ 100) hx hb hown (hts _ (List.mem_cons_of_mem _ mw114)) dX0_isLeapNumber_21 ?_
      refine kz_lrem hx hb (by first | omega | (unfold tq; split <;> omega)) (by omega) dX0_isLeapNumber_24 ?_
      refine lv_lconst (v := lZ 0) hx hb dX0_isLeapNumber_25 rfl ?_
      refine kz_lcmp_eq (tgt := 34) hx hb (by first | omega | (unfold tq; split <;> omega)) (by first | omega | (unfold tq; split <;> omega)) dX0_isLeapNumber_26 dX0_isLeapNumber_27 (by decide) (fun c_3 => ?_) (fun c_3 => ?_)
      · refine lv_iconst (v := iZ 0) hx hb dX0_isLeapNumber_34 rfl ?_
        exact W.zret (v := iZ 0) (ty := .boolean) hx hb hr rfl (fun t ht hW => ⟨congrArg (fun z : Int => Outcome.returned (some (Value.int (iZ z)))) (show 0 = (bZ (leap y)) from by unfold leap; have q1 := tq400 y; have q2 := tq4 y; have q3 := tq100 y; exact bZ_d0 (by omega)), ht⟩) (fun q h => by cases h) dX0_isLeapNumber_35
      · refine lv_iconst (v := iZ 1) hx hb dX0_isLeapNumber_30 rfl ?_
        refine lv_goto (tgt := 35) hx hb dX0_isLeapNumber_31 (by decide) ?_
        exact W.zret (v := iZ 1) (ty := .boolean) hx hb hr rfl (fun t ht hW => ⟨congrArg (fun z : Int => Outcome.returned (some (Value.int (iZ z)))) (show 1 = (bZ (leap y)) from by unfold leap; have q1 := tq400 y; have q2 := tq4 y; have q3 := tq100 y; exact bZ_d1 (by omega)), ht⟩) (fun q h => by cases h) dX0_isLeapNumber_35

abbrev ww_X0_yearLength : List Cond := .code yX0_yearLength cX0_yearLength 2 (some .int) :: gT
set_option maxHeartbeats 4000000 in
set_option maxRecDepth 100000 in
/-- X0_yearLength -/
theorem c_X0_yearLength (l : Launch) (H0 : Heap) (y : Int) (hy : -9223372036854775808 ≤ y ∧ y < 9223372036854775808) : Met l yX0_yearLength ww_X0_yearLength ({ frames := 1, cells := 0, slots := 0, locals := 21 }) (va_Pc [.long (lZ (y))] (fun U => U.heap = H0)) (kQ0 (some (.int (iZ (ylen y)))) H0) 0 0 kN := by
  refine Met.ofW (cc := cX0_yearLength) (maxL := 2) (ret := (some .int)) (by decide) rfl ?_
  intro p e s m args below meth c s₁ B hml hv
  obtain ⟨rfl, hH⟩ := hv
  subst hH
  have hx := B.exec
  have hb := B.bytes
  have hr := B.returns
  have hts := atoms_spec (ws := ww_X0_yearLength) B.pre
  have hown : s.vm.findClass RX0 = some m.cls := findClass_of_methodNamed B.named
  have hlocks := B.notSynchronized
  have hl := lv_entry ([.long (lZ (y))]) (n := 2) (Nat.le_of_ble_eq_true rfl)
  rw [lg_entry_eq]
  generalize (lg_sl ([.long (lZ (y))]) ++ List.replicate (2 - (lg_sl ([.long (lZ (y))])).length) Slot.unset).toArray = ls at hl ⊢
  have hl : lv_has ls 2 [(0, .long (lZ (y)))] := hl
  refine lv_lload_n hx hb dX0_yearLength_0 rfl (lv_at hl 0 rfl) ?_
  refine kc0 (fun _ q => q) (va_runS (As := [.long (lZ (y))]) (rest := []) ⟨hx, hb, hml, hown, hts⟩ (c_X0_isLeapNumber l _ (y) (by omega)) (va_cwS 1 hts (kg_S mw148 mw110 mw51 rfl mw111) rfl rfl rfl hdS_X0_isLeapNumber ⟨Nat.le_of_ble_eq_true rfl, Nat.le_of_ble_eq_true rfl⟩) ⟨fun a U g mk q => q, fun U hU hW => ⟨rfl, hU⟩⟩ rfl rfl hl.1 rfl (lv_room (Nat.le_of_ble_eq_true rfl)) dX0_yearLength_1 ⟨Nat.le_of_ble_eq_true rfl, Nat.le_of_ble_eq_true rfl⟩) ?_
  refine kz_ifb_eq (tgt := 13) hx hb  dX0_yearLength_4 (by decide) (fun c_1 => ?_) (fun c_1 => ?_)
  · refine lv_sipush (v := iZ 365) hx hb dX0_yearLength_13 rfl ?_
    exact W.iret (v := iZ 365) hx hb hr (fun t ht hW => ⟨congrArg (fun z : Int => Outcome.returned (some (Value.int (iZ z)))) (show 365 = (ylen y) from by unfold ylen; simp [*]), ht⟩) (fun q h => by cases h) dX0_yearLength_16
  · refine lv_sipush (v := iZ 366) hx hb dX0_yearLength_7 rfl ?_
    refine lv_goto (tgt := 16) hx hb dX0_yearLength_10 (by decide) ?_
    exact W.iret (v := iZ 366) hx hb hr (fun t ht hW => ⟨congrArg (fun z : Int => Outcome.returned (some (Value.int (iZ z)))) (show 366 = (ylen y) from by unfold ylen; simp [*]), ht⟩) (fun q h => by cases h) dX0_yearLength_16

abbrev ww_X0_sideOf : List Cond := .code yX0_sideOf cX0_sideOf 1 (some .int) :: gT
set_option maxHeartbeats 4000000 in
set_option maxRecDepth 100000 in
/-- X0_sideOf -/
theorem c_X0_sideOf (l : Launch) (H0 : Heap) (y : Int) (hy : -2147483648 ≤ y ∧ y < 2147483648) : Met l yX0_sideOf ww_X0_sideOf ({ frames := 0, cells := 0, slots := 0, locals := 0 }) (va_Pc [.int (iZ y)] (fun U => U.heap = H0)) (kQ0 (some (.int (iZ (side y)))) H0) 0 0 kN := by
  refine Met.ofW (cc := cX0_sideOf) (maxL := 1) (ret := (some .int)) (by decide) rfl ?_
  intro p e s m args below meth c s₁ B hml hv
  obtain ⟨rfl, hH⟩ := hv
  subst hH
  have hx := B.exec
  have hb := B.bytes
  have hr := B.returns
  have hts := atoms_spec (ws := ww_X0_sideOf) B.pre
  have hown : s.vm.findClass RX0 = some m.cls := findClass_of_methodNamed B.named
  have hlocks := B.notSynchronized
  have hl := lv_entry ([.int (iZ y)]) (n := 1) (Nat.le_of_ble_eq_true rfl)
  rw [lg_entry_eq]
  generalize (lg_sl ([.int (iZ y)]) ++ List.replicate (1 - (lg_sl ([.int (iZ y)])).length) Slot.unset).toArray = ls at hl ⊢
  have hl : lv_has ls 1 [(0, .int (iZ y))] := hl
  refine lv_iload_n hx hb dX0_sideOf_0 rfl (lv_at hl 0 rfl) ?_
  refine kz_if_le (tgt := 8) hx hb (by omega) dX0_sideOf_1 (by decide) (fun c_1 => ?_) (fun c_1 => ?_)
  · refine lv_iconst (v := iZ 0) hx hb dX0_sideOf_8 rfl ?_
    exact W.iret (v := iZ 0) hx hb hr (fun t ht hW => ⟨congrArg (fun z : Int => Outcome.returned (some (Value.int (iZ z)))) (show 0 = (side y) from by unfold side; split <;> omega), ht⟩) (fun q h => by cases h) dX0_sideOf_9
  · refine lv_iconst (v := iZ 1) hx hb dX0_sideOf_4 rfl ?_
    refine lv_goto (tgt := 9) hx hb dX0_sideOf_5 (by decide) ?_
    exact W.iret (v := iZ 1) hx hb hr (fun t ht hW => ⟨congrArg (fun z : Int => Outcome.returned (some (Value.int (iZ z)))) (show 1 = (side y) from by unfold side; split <;> omega), ht⟩) (fun q h => by cases h) dX0_sideOf_9

abbrev ww_X0_rankOf : List Cond := .code yX0_rankOf cX0_rankOf 1 (some .int) :: gT
set_option maxHeartbeats 4000000 in
set_option maxRecDepth 100000 in
/-- X0_rankOf -/
theorem c_X0_rankOf (l : Launch) (H0 : Heap) (y : Int) (hy : -1000000000 ≤ y ∧ y ≤ 1000000000) : Met l yX0_rankOf ww_X0_rankOf ({ frames := 0, cells := 0, slots := 0, locals := 0 }) (va_Pc [.int (iZ y)] (fun U => U.heap = H0)) (kQ0 (some (.int (iZ (rank y)))) H0) 0 0 kN := by
  refine Met.ofW (cc := cX0_rankOf) (maxL := 1) (ret := (some .int)) (by decide) rfl ?_
  intro p e s m args below meth c s₁ B hml hv
  obtain ⟨rfl, hH⟩ := hv
  subst hH
  have hx := B.exec
  have hb := B.bytes
  have hr := B.returns
  have hts := atoms_spec (ws := ww_X0_rankOf) B.pre
  have hown : s.vm.findClass RX0 = some m.cls := findClass_of_methodNamed B.named
  have hlocks := B.notSynchronized
  have hl := lv_entry ([.int (iZ y)]) (n := 1) (Nat.le_of_ble_eq_true rfl)
  rw [lg_entry_eq]
  generalize (lg_sl ([.int (iZ y)]) ++ List.replicate (1 - (lg_sl ([.int (iZ y)])).length) Slot.unset).toArray = ls at hl ⊢
  have hl : lv_has ls 1 [(0, .int (iZ y))] := hl
  refine lv_iload_n hx hb dX0_rankOf_0 rfl (lv_at hl 0 rfl) ?_
  refine kz_if_le (tgt := 8) hx hb (by omega) dX0_rankOf_1 (by decide) (fun c_1 => ?_) (fun c_1 => ?_)
  · refine lv_iconst (v := iZ 1) hx hb dX0_rankOf_8 rfl ?_
    refine lv_iload_n hx hb dX0_rankOf_9 rfl (lv_at hl 0 rfl) ?_
    refine kz_isub hx hb dX0_rankOf_10 ?_
    exact W.iret (v := iZ (1 - y)) hx hb hr (fun t ht hW => ⟨congrArg (fun z : Int => Outcome.returned (some (Value.int (iZ z)))) (show (1 - y) = (rank y) from by unfold rank; split <;> omega), ht⟩) (fun q h => by cases h) dX0_rankOf_11
  · refine lv_iload_n hx hb dX0_rankOf_4 rfl (lv_at hl 0 rfl) ?_
    refine lv_goto (tgt := 11) hx hb dX0_rankOf_5 (by decide) ?_
    exact W.iret (v := iZ y) hx hb hr (fun t ht hW => ⟨congrArg (fun z : Int => Outcome.returned (some (Value.int (iZ z)))) (show y = (rank y) from by unfold rank; split <;> omega), ht⟩) (fun q h => by cases h) dX0_rankOf_11

abbrev ww_X0_yearOfRank : List Cond := .code yX0_yearOfRank cX0_yearOfRank 2 (some .int) :: gT
set_option maxHeartbeats 4000000 in
set_option maxRecDepth 100000 in
/-- X0_yearOfRank -/
theorem c_X0_yearOfRank (l : Launch) (H0 : Heap) (r : Int) (sd : Int) (hr0 : -2147483648 ≤ r ∧ r < 2147483648) (hs0 : -2147483648 ≤ sd ∧ sd < 2147483648) : Met l yX0_yearOfRank ww_X0_yearOfRank ({ frames := 0, cells := 0, slots := 0, locals := 0 }) (va_Pc [.int (iZ r), .int (iZ sd)] (fun U => U.heap = H0)) (kQ0 (some (.int (iZ (ranked r sd)))) H0) 0 0 kN := by
  refine Met.ofW (cc := cX0_yearOfRank) (maxL := 2) (ret := (some .int)) (by decide) rfl ?_
  intro p e s m args below meth c s₁ B hml hv
  obtain ⟨rfl, hH⟩ := hv
  subst hH
  have hx := B.exec
  have hb := B.bytes
  have hr := B.returns
  have hts := atoms_spec (ws := ww_X0_yearOfRank) B.pre
  have hown : s.vm.findClass RX0 = some m.cls := findClass_of_methodNamed B.named
  have hlocks := B.notSynchronized
  have hl := lv_entry ([.int (iZ r), .int (iZ sd)]) (n := 2) (Nat.le_of_ble_eq_true rfl)
  rw [lg_entry_eq]
  generalize (lg_sl ([.int (iZ r), .int (iZ sd)]) ++ List.replicate (2 - (lg_sl ([.int (iZ r), .int (iZ sd)])).length) Slot.unset).toArray = ls at hl ⊢
  have hl : lv_has ls 2 [(0, .int (iZ r)), (1, .int (iZ sd))] := hl
  refine lv_iload_n hx hb dX0_yearOfRank_0 rfl (lv_at hl 1 rfl) ?_
  refine lv_iconst (v := iZ 1) hx hb dX0_yearOfRank_1 rfl ?_
  refine kz_icmp_ne (tgt := 9) hx hb (by omega) (by omega) dX0_yearOfRank_2 (by decide) (fun c_1 => ?_) (fun c_1 => ?_)
  · refine lv_iconst (v := iZ 1) hx hb dX0_yearOfRank_9 rfl ?_
    refine lv_iload_n hx hb dX0_yearOfRank_10 rfl (lv_at hl 0 rfl) ?_
    refine kz_isub hx hb dX0_yearOfRank_11 ?_
    exact W.iret (v := iZ (1 - r)) hx hb hr (fun t ht hW => ⟨congrArg (fun z : Int => Outcome.returned (some (Value.int (iZ z)))) (show (1 - r) = (ranked r sd) from by unfold ranked; split <;> omega), ht⟩) (fun q h => by cases h) dX0_yearOfRank_12
  · refine lv_iload_n hx hb dX0_yearOfRank_5 rfl (lv_at hl 0 rfl) ?_
    refine lv_goto (tgt := 12) hx hb dX0_yearOfRank_6 (by decide) ?_
    exact W.iret (v := iZ r) hx hb hr (fun t ht hW => ⟨congrArg (fun z : Int => Outcome.returned (some (Value.int (iZ z)))) (show r = (ranked r sd) from by unfold ranked; split <;> omega), ht⟩) (fun q h => by cases h) dX0_yearOfRank_12

abbrev ww_X0_monthLength : List Cond := .code yX0_monthLength cX0_monthLength 2 (some .int) :: gT
set_option maxHeartbeats 4000000 in
set_option maxRecDepth 100000 in
/-- X0_monthLength -/
theorem c_X0_monthLength (l : Launch) (H0 : Heap) (mo : Int) (b : Bool) (hm : -2147483648 ≤ mo ∧ mo < 2147483648) : Met l yX0_monthLength ww_X0_monthLength ({ frames := 0, cells := 0, slots := 0, locals := 0 }) (va_Pc [.int (iZ mo), .int (iZ (bZ (b)))] (fun U => U.heap = H0)) (kQ0 (some (.int (iZ (mlen b mo)))) H0) 0 0 kN := by
  refine Met.ofW (cc := cX0_monthLength) (maxL := 2) (ret := (some .int)) (by decide) rfl ?_
  intro p e s m args below meth c s₁ B hml hv
  obtain ⟨rfl, hH⟩ := hv
  subst hH
  have hx := B.exec
  have hb := B.bytes
  have hr := B.returns
  have hts := atoms_spec (ws := ww_X0_monthLength) B.pre
  have hown : s.vm.findClass RX0 = some m.cls := findClass_of_methodNamed B.named
  have hlocks := B.notSynchronized
  have hl := lv_entry ([.int (iZ mo), .int (iZ (bZ (b)))]) (n := 2) (Nat.le_of_ble_eq_true rfl)
  rw [lg_entry_eq]
  generalize (lg_sl ([.int (iZ mo), .int (iZ (bZ (b)))]) ++ List.replicate (2 - (lg_sl ([.int (iZ mo), .int (iZ (bZ (b)))])).length) Slot.unset).toArray = ls at hl ⊢
  have hl : lv_has ls 2 [(0, .int (iZ mo)), (1, .int (iZ (bZ (b))))] := hl
  refine lv_iload_n hx hb dX0_monthLength_0 rfl (lv_at hl 0 rfl) ?_
  by_cases c_1 : mo = 2
  · refine lv_tableIn (tgt := 56) (off := 55) hx hb dX0_monthLength_1 (by rw [iZ_toInt (z := mo) (by omega)]; omega) (by rw [iZ_toInt (z := mo) (by omega)]; omega) (by rw [iZ_toInt (z := mo) (by omega), show mo = 2 from by omega]; rfl) (by decide) ?_
    refine lv_iload_n hx hb dX0_monthLength_56 rfl (lv_at hl 1 rfl) ?_
    refine kz_ifb_eq (tgt := 65) hx hb  dX0_monthLength_57 (by decide) (fun c_2 => ?_) (fun c_2 => ?_)
    · refine lv_bipush (v := iZ 28) hx hb dX0_monthLength_65 rfl ?_
      exact W.iret (v := iZ 28) hx hb hr (fun t ht hW => ⟨congrArg (fun z : Int => Outcome.returned (some (Value.int (iZ z)))) (show 28 = (mlen b mo) from by unfold mlen; first | (simp [*]; done) | ((repeat' split) <;> first | rfl | omega | simp_all)), ht⟩) (fun q h => by cases h) dX0_monthLength_67
    · refine lv_bipush (v := iZ 29) hx hb dX0_monthLength_60 rfl ?_
      refine lv_goto (tgt := 67) hx hb dX0_monthLength_62 (by decide) ?_
      exact W.iret (v := iZ 29) hx hb hr (fun t ht hW => ⟨congrArg (fun z : Int => Outcome.returned (some (Value.int (iZ z)))) (show 29 = (mlen b mo) from by unfold mlen; first | (simp [*]; done) | ((repeat' split) <;> first | rfl | omega | simp_all)), ht⟩) (fun q h => by cases h) dX0_monthLength_67
  by_cases c_3 : mo = 3
  · refine lv_tableIn (tgt := 71) (off := 70) hx hb dX0_monthLength_1 (by rw [iZ_toInt (z := mo) (by omega)]; omega) (by rw [iZ_toInt (z := mo) (by omega)]; omega) (by rw [iZ_toInt (z := mo) (by omega), show mo = 3 from by omega]; rfl) (by decide) ?_
    refine lv_bipush (v := iZ 31) hx hb dX0_monthLength_71 rfl ?_
    exact W.iret (v := iZ 31) hx hb hr (fun t ht hW => ⟨congrArg (fun z : Int => Outcome.returned (some (Value.int (iZ z)))) (show 31 = (mlen b mo) from by unfold mlen; first | (simp [*]; done) | ((repeat' split) <;> first | rfl | omega | simp_all)), ht⟩) (fun q h => by cases h) dX0_monthLength_73
  by_cases c_4 : mo = 4
  · refine lv_tableIn (tgt := 68) (off := 67) hx hb dX0_monthLength_1 (by rw [iZ_toInt (z := mo) (by omega)]; omega) (by rw [iZ_toInt (z := mo) (by omega)]; omega) (by rw [iZ_toInt (z := mo) (by omega), show mo = 4 from by omega]; rfl) (by decide) ?_
    refine lv_bipush (v := iZ 30) hx hb dX0_monthLength_68 rfl ?_
    exact W.iret (v := iZ 30) hx hb hr (fun t ht hW => ⟨congrArg (fun z : Int => Outcome.returned (some (Value.int (iZ z)))) (show 30 = (mlen b mo) from by unfold mlen; first | (simp [*]; done) | ((repeat' split) <;> first | rfl | omega | simp_all)), ht⟩) (fun q h => by cases h) dX0_monthLength_70
  by_cases c_5 : mo = 5
  · refine lv_tableIn (tgt := 71) (off := 70) hx hb dX0_monthLength_1 (by rw [iZ_toInt (z := mo) (by omega)]; omega) (by rw [iZ_toInt (z := mo) (by omega)]; omega) (by rw [iZ_toInt (z := mo) (by omega), show mo = 5 from by omega]; rfl) (by decide) ?_
    refine lv_bipush (v := iZ 31) hx hb dX0_monthLength_71 rfl ?_
    exact W.iret (v := iZ 31) hx hb hr (fun t ht hW => ⟨congrArg (fun z : Int => Outcome.returned (some (Value.int (iZ z)))) (show 31 = (mlen b mo) from by unfold mlen; first | (simp [*]; done) | ((repeat' split) <;> first | rfl | omega | simp_all)), ht⟩) (fun q h => by cases h) dX0_monthLength_73
  by_cases c_6 : mo = 6
  · refine lv_tableIn (tgt := 68) (off := 67) hx hb dX0_monthLength_1 (by rw [iZ_toInt (z := mo) (by omega)]; omega) (by rw [iZ_toInt (z := mo) (by omega)]; omega) (by rw [iZ_toInt (z := mo) (by omega), show mo = 6 from by omega]; rfl) (by decide) ?_
    refine lv_bipush (v := iZ 30) hx hb dX0_monthLength_68 rfl ?_
    exact W.iret (v := iZ 30) hx hb hr (fun t ht hW => ⟨congrArg (fun z : Int => Outcome.returned (some (Value.int (iZ z)))) (show 30 = (mlen b mo) from by unfold mlen; first | (simp [*]; done) | ((repeat' split) <;> first | rfl | omega | simp_all)), ht⟩) (fun q h => by cases h) dX0_monthLength_70
  by_cases c_7 : mo = 7
  · refine lv_tableIn (tgt := 71) (off := 70) hx hb dX0_monthLength_1 (by rw [iZ_toInt (z := mo) (by omega)]; omega) (by rw [iZ_toInt (z := mo) (by omega)]; omega) (by rw [iZ_toInt (z := mo) (by omega), show mo = 7 from by omega]; rfl) (by decide) ?_
    refine lv_bipush (v := iZ 31) hx hb dX0_monthLength_71 rfl ?_
    exact W.iret (v := iZ 31) hx hb hr (fun t ht hW => ⟨congrArg (fun z : Int => Outcome.returned (some (Value.int (iZ z)))) (show 31 = (mlen b mo) from by unfold mlen; first | (simp [*]; done) | ((repeat' split) <;> first | rfl | omega | simp_all)), ht⟩) (fun q h => by cases h) dX0_monthLength_73
  by_cases c_8 : mo = 8
  · refine lv_tableIn (tgt := 71) (off := 70) hx hb dX0_monthLength_1 (by rw [iZ_toInt (z := mo) (by omega)]; omega) (by rw [iZ_toInt (z := mo) (by omega)]; omega) (by rw [iZ_toInt (z := mo) (by omega), show mo = 8 from by omega]; rfl) (by decide) ?_
    refine lv_bipush (v := iZ 31) hx hb dX0_monthLength_71 rfl ?_
    exact W.iret (v := iZ 31) hx hb hr (fun t ht hW => ⟨congrArg (fun z : Int => Outcome.returned (some (Value.int (iZ z)))) (show 31 = (mlen b mo) from by unfold mlen; first | (simp [*]; done) | ((repeat' split) <;> first | rfl | omega | simp_all)), ht⟩) (fun q h => by cases h) dX0_monthLength_73
  by_cases c_9 : mo = 9
  · refine lv_tableIn (tgt := 68) (off := 67) hx hb dX0_monthLength_1 (by rw [iZ_toInt (z := mo) (by omega)]; omega) (by rw [iZ_toInt (z := mo) (by omega)]; omega) (by rw [iZ_toInt (z := mo) (by omega), show mo = 9 from by omega]; rfl) (by decide) ?_
    refine lv_bipush (v := iZ 30) hx hb dX0_monthLength_68 rfl ?_
    exact W.iret (v := iZ 30) hx hb hr (fun t ht hW => ⟨congrArg (fun z : Int => Outcome.returned (some (Value.int (iZ z)))) (show 30 = (mlen b mo) from by unfold mlen; first | (simp [*]; done) | ((repeat' split) <;> first | rfl | omega | simp_all)), ht⟩) (fun q h => by cases h) dX0_monthLength_70
  by_cases c_10 : mo = 10
  · refine lv_tableIn (tgt := 71) (off := 70) hx hb dX0_monthLength_1 (by rw [iZ_toInt (z := mo) (by omega)]; omega) (by rw [iZ_toInt (z := mo) (by omega)]; omega) (by rw [iZ_toInt (z := mo) (by omega), show mo = 10 from by omega]; rfl) (by decide) ?_
    refine lv_bipush (v := iZ 31) hx hb dX0_monthLength_71 rfl ?_
    exact W.iret (v := iZ 31) hx hb hr (fun t ht hW => ⟨congrArg (fun z : Int => Outcome.returned (some (Value.int (iZ z)))) (show 31 = (mlen b mo) from by unfold mlen; first | (simp [*]; done) | ((repeat' split) <;> first | rfl | omega | simp_all)), ht⟩) (fun q h => by cases h) dX0_monthLength_73
  by_cases c_11 : mo = 11
  · refine lv_tableIn (tgt := 68) (off := 67) hx hb dX0_monthLength_1 (by rw [iZ_toInt (z := mo) (by omega)]; omega) (by rw [iZ_toInt (z := mo) (by omega)]; omega) (by rw [iZ_toInt (z := mo) (by omega), show mo = 11 from by omega]; rfl) (by decide) ?_
    refine lv_bipush (v := iZ 30) hx hb dX0_monthLength_68 rfl ?_
    exact W.iret (v := iZ 30) hx hb hr (fun t ht hW => ⟨congrArg (fun z : Int => Outcome.returned (some (Value.int (iZ z)))) (show 30 = (mlen b mo) from by unfold mlen; first | (simp [*]; done) | ((repeat' split) <;> first | rfl | omega | simp_all)), ht⟩) (fun q h => by cases h) dX0_monthLength_70
  refine lv_tableOut (tgt := 71) hx hb dX0_monthLength_1 (by rw [iZ_toInt (z := mo) (by omega)]; omega) (by decide) ?_
  refine lv_bipush (v := iZ 31) hx hb dX0_monthLength_71 rfl ?_
  exact W.iret (v := iZ 31) hx hb hr (fun t ht hW => ⟨congrArg (fun z : Int => Outcome.returned (some (Value.int (iZ z)))) (show 31 = (mlen b mo) from by unfold mlen; first | (simp [*]; done) | ((repeat' split) <;> first | rfl | omega | simp_all)), ht⟩) (fun q h => by cases h) dX0_monthLength_73

abbrev ww_X0_monthBehindFirst : List Cond := .code yX0_monthBehindFirst cX0_monthBehindFirst 1 (some .int) :: gT
set_option maxHeartbeats 4000000 in
set_option maxRecDepth 100000 in
/-- X0_monthBehindFirst -/
theorem c_X0_monthBehindFirst (l : Launch) (H0 : Heap) (x : Int) (hx0 : -2147483648 ≤ x ∧ x < 2147483648) : Met l yX0_monthBehindFirst ww_X0_monthBehindFirst ({ frames := 1, cells := 0, slots := 0, locals := 22 }) (va_Pc [.int (iZ x)] (fun U => U.heap = H0)) (kQ0 (some (.int (iZ (1 + x % 12)))) H0) 0 0 kN := by
  refine Met.ofW (cc := cX0_monthBehindFirst) (maxL := 1) (ret := (some .int)) (by decide) rfl ?_
  intro p e s m args below meth c s₁ B hml hv
  obtain ⟨rfl, hH⟩ := hv
  subst hH
  have hx := B.exec
  have hb := B.bytes
  have hr := B.returns
  have hts := atoms_spec (ws := ww_X0_monthBehindFirst) B.pre
  have hown : s.vm.findClass RX0 = some m.cls := findClass_of_methodNamed B.named
  have hlocks := B.notSynchronized
  have hl := lv_entry ([.int (iZ x)]) (n := 1) (Nat.le_of_ble_eq_true rfl)
  rw [lg_entry_eq]
  generalize (lg_sl ([.int (iZ x)]) ++ List.replicate (1 - (lg_sl ([.int (iZ x)])).length) Slot.unset).toArray = ls at hl ⊢
  have hl : lv_has ls 1 [(0, .int (iZ x))] := hl
  refine lv_iconst (v := iZ 1) hx hb dX0_monthBehindFirst_0 rfl ?_
  refine lv_iload_n hx hb dX0_monthBehindFirst_1 rfl (lv_at hl 0 rfl) ?_
  refine lv_bipush (v := iZ 12) hx hb dX0_monthBehindFirst_2 rfl ?_
  refine kc0 (fun _ q => q) (va_runS (As := [.int (iZ x), .int (iZ 12)]) (rest := [.int (iZ 1)]) ⟨hx, hb, hml, hown, hts⟩ (c_J9_floorMod_7cf53 l _ (x) (12) (by omega) (by omega)) (va_cwS 2 hts (kg_S mw630 mw631 mw52 rfl mw632) rfl rfl rfl hdS_J9_floorMod_7cf53 ⟨Nat.le_of_ble_eq_true rfl, Nat.le_of_ble_eq_true rfl⟩) ⟨fun a U g mk q => q, fun U hU hW => ⟨rfl, hU⟩⟩ rfl rfl hl.1 rfl (lv_room (Nat.le_of_ble_eq_true rfl)) dX0_monthBehindFirst_4 ⟨Nat.le_of_ble_eq_true rfl, Nat.le_of_ble_eq_true rfl⟩) ?_
  refine kz_iadd hx hb dX0_monthBehindFirst_7 ?_
  exact W.iret (v := iZ (1 + (((x)) % ((12))))) hx hb hr (fun t ht hW => ⟨congrArg (fun z : Int => Outcome.returned (some (Value.int (iZ z)))) (show (1 + (((x)) % ((12)))) = (1 + x % 12) from by rfl), ht⟩) (fun q h => by cases h) dX0_monthBehindFirst_8

abbrev ww_X0_isInEachYear : List Cond := .code yX0_isInEachYear cX0_isInEachYear 2 (some .boolean) :: gT
set_option maxHeartbeats 4000000 in
set_option maxRecDepth 100000 in
/-- X0_isInEachYear -/
theorem c_X0_isInEachYear (l : Launch) (H0 : Heap) (mo : Int) (dd : Int) (hm : -2147483648 ≤ mo ∧ mo < 2147483648) (hd : -2147483648 ≤ dd ∧ dd < 2147483648) : Met l yX0_isInEachYear ww_X0_isInEachYear ({ frames := 0, cells := 0, slots := 0, locals := 0 }) (va_Pc [.int (iZ mo), .int (iZ dd)] (fun U => U.heap = H0)) (kQ0 (some (.int (iZ (bZ (decide (mo ≠ 2 ∨ dd ≤ 28)))))) H0) 0 0 kN := by
  refine Met.ofW (cc := cX0_isInEachYear) (maxL := 2) (ret := (some .boolean)) (by decide) rfl ?_
  intro p e s m args below meth c s₁ B hml hv
  obtain ⟨rfl, hH⟩ := hv
  subst hH
  have hx := B.exec
  have hb := B.bytes
  have hr := B.returns
  have hts := atoms_spec (ws := ww_X0_isInEachYear) B.pre
  have hown : s.vm.findClass RX0 = some m.cls := findClass_of_methodNamed B.named
  have hlocks := B.notSynchronized
  have hl := lv_entry ([.int (iZ mo), .int (iZ dd)]) (n := 2) (Nat.le_of_ble_eq_true rfl)
  rw [lg_entry_eq]
  generalize (lg_sl ([.int (iZ mo), .int (iZ dd)]) ++ List.replicate (2 - (lg_sl ([.int (iZ mo), .int (iZ dd)])).length) Slot.unset).toArray = ls at hl ⊢
  have hl : lv_has ls 2 [(0, .int (iZ mo)), (1, .int (iZ dd))] := hl
  refine lv_iload_n hx hb dX0_isInEachYear_0 rfl (lv_at hl 0 rfl) ?_
  refine lv_iconst (v := iZ 2) hx hb dX0_isInEachYear_1 rfl ?_
  refine kz_icmp_ne (tgt := 11) hx hb (by omega) (by omega) dX0_isInEachYear_2 (by decide) (fun c_1 => ?_) (fun c_1 => ?_)
  · refine lv_iconst (v := iZ 1) hx hb dX0_isInEachYear_11 rfl ?_
    refine lv_goto (tgt := 16) hx hb dX0_isInEachYear_12 (by decide) ?_
    exact W.zret (v := iZ 1) (ty := .boolean) hx hb hr rfl (fun t ht hW => ⟨congrArg (fun z : Int => Outcome.returned (some (Value.int (iZ z)))) (show 1 = (bZ (decide (mo ≠ 2 ∨ dd ≤ 28))) from by exact bZ_d1 (by omega)), ht⟩) (fun q h => by cases h) dX0_isInEachYear_16
  · refine lv_iload_n hx hb dX0_isInEachYear_5 rfl (lv_at hl 1 rfl) ?_
    refine lv_bipush (v := iZ 28) hx hb dX0_isInEachYear_6 rfl ?_
    refine kz_icmp_gt (tgt := 15) hx hb (by omega) (by omega) dX0_isInEachYear_8 (by decide) (fun c_2 => ?_) (fun c_2 => ?_)
    · refine lv_iconst (v := iZ 0) hx hb dX0_isInEachYear_15 rfl ?_
      exact W.zret (v := iZ 0) (ty := .boolean) hx hb hr rfl (fun t ht hW => ⟨congrArg (fun z : Int => Outcome.returned (some (Value.int (iZ z)))) (show 0 = (bZ (decide (mo ≠ 2 ∨ dd ≤ 28))) from by exact bZ_d0 (by omega)), ht⟩) (fun q h => by cases h) dX0_isInEachYear_16
    · refine lv_iconst (v := iZ 1) hx hb dX0_isInEachYear_11 rfl ?_
      refine lv_goto (tgt := 16) hx hb dX0_isInEachYear_12 (by decide) ?_
      exact W.zret (v := iZ 1) (ty := .boolean) hx hb hr rfl (fun t ht hW => ⟨congrArg (fun z : Int => Outcome.returned (some (Value.int (iZ z)))) (show 1 = (bZ (decide (mo ≠ 2 ∨ dd ≤ 28))) from by exact bZ_d1 (by omega)), ht⟩) (fun q h => by cases h) dX0_isInEachYear_16

abbrev ww_X0_countOf : List Cond := .code yX0_countOf cX0_countOf 2 (some .long) :: gT
set_option maxHeartbeats 4000000 in
set_option maxRecDepth 100000 in
/-- X0_countOf -/
theorem c_X0_countOf (l : Launch) (H0 : Heap) (y : Int) (mo : Int) (hy : -2147483648 ≤ y ∧ y < 2147483648) (hm : -2147483648 ≤ mo ∧ mo < 2147483648) : Met l yX0_countOf ww_X0_countOf ({ frames := 0, cells := 0, slots := 0, locals := 0 }) (va_Pc [.int (iZ y), .int (iZ mo)] (fun U => U.heap = H0)) (kQ0 (some (.long (lZ (12 * y + mo - 1)))) H0) 0 0 kN := by
  refine Met.ofW (cc := cX0_countOf) (maxL := 2) (ret := (some .long)) (by decide) rfl ?_
  intro p e s m args below meth c s₁ B hml hv
  obtain ⟨rfl, hH⟩ := hv
  subst hH
  have hx := B.exec
  have hb := B.bytes
  have hr := B.returns
  have hts := atoms_spec (ws := ww_X0_countOf) B.pre
  have hown : s.vm.findClass RX0 = some m.cls := findClass_of_methodNamed B.named
  have hlocks := B.notSynchronized
  have hl := lv_entry ([.int (iZ y), .int (iZ mo)]) (n := 2) (Nat.le_of_ble_eq_true rfl)
  rw [lg_entry_eq]
  generalize (lg_sl ([.int (iZ y), .int (iZ mo)]) ++ List.replicate (2 - (lg_sl ([.int (iZ y), .int (iZ mo)])).length) Slot.unset).toArray = ls at hl ⊢
  have hl : lv_has ls 2 [(0, .int (iZ y)), (1, .int (iZ mo))] := hl
  refine lv_ldc2 (v := lZ 12) hx hb hown (hts _ (List.mem_cons_of_mem _ mw138)) dX0_countOf_0 ?_
  refine lv_iload_n hx hb dX0_countOf_3 rfl (lv_at hl 0 rfl) ?_
  refine kz_i2l hx hb (by omega) dX0_countOf_4 ?_
  refine kz_lmul hx hb dX0_countOf_5 ?_
  refine lv_iload_n hx hb dX0_countOf_6 rfl (lv_at hl 1 rfl) ?_
  refine kz_i2l hx hb (by omega) dX0_countOf_7 ?_
  refine kz_ladd hx hb dX0_countOf_8 ?_
  refine lv_lconst (v := lZ 1) hx hb dX0_countOf_9 rfl ?_
  refine kz_lsub hx hb dX0_countOf_10 ?_
  exact W.lret (v := lZ (((12 * y) + mo) - 1)) hx hb hr (fun t ht hW => ⟨congrArg (fun z : Int => Outcome.returned (some (Value.long (lZ z)))) (show (((12 * y) + mo) - 1) = (12 * y + mo - 1) from by omega), ht⟩) (fun q h => by cases h) dX0_countOf_11

abbrev ww_X0_yearOfCount : List Cond := .code yX0_yearOfCount cX0_yearOfCount 2 (some .int) :: gT
set_option maxHeartbeats 4000000 in
set_option maxRecDepth 100000 in
/-- X0_yearOfCount -/
theorem c_X0_yearOfCount (l : Launch) (H0 : Heap) (cn : Int) (hc : -12000000000 ≤ cn ∧ cn ≤ 12000000000) : Met l yX0_yearOfCount ww_X0_yearOfCount ({ frames := 1, cells := 0, slots := 0, locals := 25 }) (va_Pc [.long (lZ (cn))] (fun U => U.heap = H0)) (kQ0 (some (.int (iZ (yearOf cn)))) H0) 0 0 kN := by
  refine Met.ofW (cc := cX0_yearOfCount) (maxL := 2) (ret := (some .int)) (by decide) rfl ?_
  intro p e s m args below meth c s₁ B hml hv
  obtain ⟨rfl, hH⟩ := hv
  subst hH
  have hx := B.exec
  have hb := B.bytes
  have hr := B.returns
  have hts := atoms_spec (ws := ww_X0_yearOfCount) B.pre
  have hown : s.vm.findClass RX0 = some m.cls := findClass_of_methodNamed B.named
  have hlocks := B.notSynchronized
  have hl := lv_entry ([.long (lZ (cn))]) (n := 2) (Nat.le_of_ble_eq_true rfl)
  rw [lg_entry_eq]
  generalize (lg_sl ([.long (lZ (cn))]) ++ List.replicate (2 - (lg_sl ([.long (lZ (cn))])).length) Slot.unset).toArray = ls at hl ⊢
  have hl : lv_has ls 2 [(0, .long (lZ (cn)))] := hl
  refine lv_lload_n hx hb dX0_yearOfCount_0 rfl (lv_at hl 0 rfl) ?_
  refine lv_ldc2 (v := lZ 12) hx hb hown (hts _ (List.mem_cons_of_mem _ mw138)) dX0_yearOfCount_1 ?_
  refine kc0 (fun _ q => q) (va_runS (As := [.long (lZ (cn)), .long (lZ (12))]) (rest := []) ⟨hx, hb, hml, hown, hts⟩ (c_J9_floorDiv_f86c9 l _ (cn) (12) (by omega) (by omega)) (va_cwS 2 hts (kg_S mw145 mw146 mw52 rfl mw147) rfl rfl rfl hdS_J9_floorDiv_f86c9 ⟨Nat.le_of_ble_eq_true rfl, Nat.le_of_ble_eq_true rfl⟩) ⟨fun a U g mk q => q, fun U hU hW => ⟨rfl, hU⟩⟩ rfl rfl hl.1 rfl (lv_room (Nat.le_of_ble_eq_true rfl)) dX0_yearOfCount_4 ⟨Nat.le_of_ble_eq_true rfl, Nat.le_of_ble_eq_true rfl⟩) ?_
  refine kz_l2i hx hb dX0_yearOfCount_7 ?_
  exact W.iret (v := iZ (((cn)) / ((12)))) hx hb hr (fun t ht hW => ⟨congrArg (fun z : Int => Outcome.returned (some (Value.int (iZ z)))) (show (((cn)) / ((12))) = (yearOf cn) from by rfl), ht⟩) (fun q h => by cases h) dX0_yearOfCount_8

abbrev ww_X0_monthOf : List Cond := .code yX0_monthOf cX0_monthOf 2 (some .int) :: gT
set_option maxHeartbeats 4000000 in
set_option maxRecDepth 100000 in
/-- X0_monthOf -/
theorem c_X0_monthOf (l : Launch) (H0 : Heap) (cn : Int) (hc : -12000000000 ≤ cn ∧ cn ≤ 12000000000) : Met l yX0_monthOf ww_X0_monthOf ({ frames := 1, cells := 0, slots := 0, locals := 25 }) (va_Pc [.long (lZ (cn))] (fun U => U.heap = H0)) (kQ0 (some (.int (iZ (monOf cn)))) H0) 0 0 kN := by
  refine Met.ofW (cc := cX0_monthOf) (maxL := 2) (ret := (some .int)) (by decide) rfl ?_
  intro p e s m args below meth c s₁ B hml hv
  obtain ⟨rfl, hH⟩ := hv
  subst hH
  have hx := B.exec
  have hb := B.bytes
  have hr := B.returns
  have hts := atoms_spec (ws := ww_X0_monthOf) B.pre
  have hown : s.vm.findClass RX0 = some m.cls := findClass_of_methodNamed B.named
  have hlocks := B.notSynchronized
  have hl := lv_entry ([.long (lZ (cn))]) (n := 2) (Nat.le_of_ble_eq_true rfl)
  rw [lg_entry_eq]
  generalize (lg_sl ([.long (lZ (cn))]) ++ List.replicate (2 - (lg_sl ([.long (lZ (cn))])).length) Slot.unset).toArray = ls at hl ⊢
  have hl : lv_has ls 2 [(0, .long (lZ (cn)))] := hl
  refine lv_iconst (v := iZ 1) hx hb dX0_monthOf_0 rfl ?_
  refine lv_lload_n hx hb dX0_monthOf_1 rfl (lv_at hl 0 rfl) ?_
  refine lv_ldc2 (v := lZ 12) hx hb hown (hts _ (List.mem_cons_of_mem _ mw138)) dX0_monthOf_2 ?_
  refine kc0 (fun _ q => q) (va_runS (As := [.long (lZ (cn)), .long (lZ (12))]) (rest := [.int (iZ 1)]) ⟨hx, hb, hml, hown, hts⟩ (c_J9_floorMod_f86c9 l _ (cn) (12) (by omega) (by omega)) (va_cwS 2 hts (kg_S mw139 mw140 mw52 rfl mw141) rfl rfl rfl hdS_J9_floorMod_f86c9 ⟨Nat.le_of_ble_eq_true rfl, Nat.le_of_ble_eq_true rfl⟩) ⟨fun a U g mk q => q, fun U hU hW => ⟨rfl, hU⟩⟩ rfl rfl hl.1 rfl (lv_room (Nat.le_of_ble_eq_true rfl)) dX0_monthOf_5 ⟨Nat.le_of_ble_eq_true rfl, Nat.le_of_ble_eq_true rfl⟩) ?_
  refine kz_l2i hx hb dX0_monthOf_8 ?_
  refine kz_iadd hx hb dX0_monthOf_9 ?_
  exact W.iret (v := iZ (1 + (((cn)) % ((12))))) hx hb hr (fun t ht hW => ⟨congrArg (fun z : Int => Outcome.returned (some (Value.int (iZ z)))) (show (1 + (((cn)) % ((12)))) = (monOf cn) from by rfl), ht⟩) (fun q h => by cases h) dX0_monthOf_10

theorem k_loop {W : Array Slot → Prop} {ls0 : Array Slot} (I : Nat → Array Slot → Prop) (N k0 : Nat) (hk0 : k0 ≤ N) (h0 : I k0 ls0) (hx : ∀ ls, I N ls → W ls) (hs : ∀ k ls, k < N → I k ls → (∀ ls', I (k + 1) ls' → W ls') → W ls) : W ls0 := by
  have key : ∀ (n k : Nat) (ls : Array Slot), k + n = N → I k ls → W ls := by
    intro n
    induction n with
    | zero => intro k ls hk hi; exact hx ls (by rw [show k = N by omega] at hi; exact hi)
    | succ n ih => intro k ls hk hi; exact hs k ls (by omega) hi (fun ls' hi' => ih (k + 1) ls' (by omega) hi')
  exact key (N - k0) k0 ls0 (by omega) h0
theorem aheadN_rng (b : Bool) : ∀ n : Nat, n ≤ 12 → 0 ≤ aheadN b n ∧ aheadN b n ≤ 366
  | 0, _ => ⟨Int.le_refl 0, (by decide : (0 : Int) ≤ 366)⟩
  | n + 1, h => by
    have h1 : ∀ m : Fin 13, 0 ≤ aheadN b m.val ∧ aheadN b m.val ≤ 366 := by cases b <;> decide
    exact h1 ⟨n + 1, by omega⟩
theorem ahead_rng (b : Bool) {m : Int} (h : 1 ≤ m ∧ m ≤ 13) : 0 ≤ ahead b m ∧ ahead b m ≤ 366 := aheadN_rng b _ (by omega)
theorem ahead_rngI (b : Bool) {m : Int} (h : 1 ≤ m ∧ m ≤ 13) : -2147483648 ≤ ahead b m ∧ ahead b m < 2147483648 := by have := ahead_rng b h; omega
theorem monOf_rng (c : Int) : 1 ≤ monOf c ∧ monOf c ≤ 12 := by unfold monOf; omega
theorem yearOf_rng {c : Int} (h : -12000000000 ≤ c ∧ c ≤ 12000000000) : -1000000000 ≤ yearOf c ∧ yearOf c ≤ 1000000000 := by unfold yearOf; omega
def lenOf (c : Int) : Int := mlen (leap (yearOf c)) (monOf c)
/-- the month in which the place p of a year lies -/
def mop (b : Bool) (p : Int) : Int := if p ≤ ahead b 2 then 1 else if p ≤ ahead b 3 then 2 else if p ≤ ahead b 4 then 3 else if p ≤ ahead b 5 then 4 else if p ≤ ahead b 6 then 5 else if p ≤ ahead b 7 then 6 else if p ≤ ahead b 8 then 7 else if p ≤ ahead b 9 then 8 else if p ≤ ahead b 10 then 9 else if p ≤ ahead b 11 then 10 else if p ≤ ahead b 12 then 11 else 12
abbrev ww_X0_lengthOf : List Cond := .code yX0_lengthOf cX0_lengthOf 2 (some .int) :: gT
set_option maxHeartbeats 4000000 in
set_option maxRecDepth 100000 in
/-- X0_lengthOf -/
theorem c_X0_lengthOf (l : Launch) (H0 : Heap) (cn : Int) (hc : -12000000000 ≤ cn ∧ cn ≤ 12000000000) : Met l yX0_lengthOf ww_X0_lengthOf ({ frames := 2, cells := 0, slots := 0, locals := 46 }) (va_Pc [.long (lZ (cn))] (fun U => U.heap = H0)) (kQ0 (some (.int (iZ (lenOf cn)))) H0) 0 0 kN := by
  refine Met.ofW (cc := cX0_lengthOf) (maxL := 2) (ret := (some .int)) (by decide) rfl ?_
  intro p e s m args below meth c s₁ B hml hv
  obtain ⟨rfl, hH⟩ := hv
  subst hH
  have hx := B.exec
  have hb := B.bytes
  have hr := B.returns
  have hts := atoms_spec (ws := ww_X0_lengthOf) B.pre
  have hown : s.vm.findClass RX0 = some m.cls := findClass_of_methodNamed B.named
  have hlocks := B.notSynchronized
  have hl := lv_entry ([.long (lZ (cn))]) (n := 2) (Nat.le_of_ble_eq_true rfl)
  rw [lg_entry_eq]
  generalize (lg_sl ([.long (lZ (cn))]) ++ List.replicate (2 - (lg_sl ([.long (lZ (cn))])).length) Slot.unset).toArray = ls at hl ⊢
  have hl : lv_has ls 2 [(0, .long (lZ (cn)))] := hl
  refine lv_lload_n hx hb dX0_lengthOf_0 rfl (lv_at hl 0 rfl) ?_
  refine kc0 (fun _ q => q) (va_runS (As := [.long (lZ (cn))]) (rest := []) ⟨hx, hb, hml, hown, hts⟩ (c_X0_monthOf l _ (cn) (by have := monOf_rng cn; have := yearOf_rng hc; omega)) (va_cwS 1 hts (kg_S mw135 mw136 mw51 rfl mw137) rfl rfl rfl hdS_X0_monthOf ⟨Nat.le_of_ble_eq_true rfl, Nat.le_of_ble_eq_true rfl⟩) ⟨fun a U g mk q => q, fun U hU hW => ⟨rfl, hU⟩⟩ rfl rfl hl.1 rfl (lv_room (Nat.le_of_ble_eq_true rfl)) dX0_lengthOf_1 ⟨Nat.le_of_ble_eq_true rfl, Nat.le_of_ble_eq_true rfl⟩) ?_
  refine lv_lload_n hx hb dX0_lengthOf_4 rfl (lv_at hl 0 rfl) ?_
  refine kc0 (fun _ q => q) (va_runS (As := [.long (lZ (cn))]) (rest := [.int (iZ (monOf ((cn))))]) ⟨hx, hb, hml, hown, hts⟩ (c_X0_yearOfCount l _ (cn) (by have := monOf_rng cn; have := yearOf_rng hc; omega)) (va_cwS 1 hts (kg_S mw142 mw143 mw51 rfl mw144) rfl rfl rfl hdS_X0_yearOfCount ⟨Nat.le_of_ble_eq_true rfl, Nat.le_of_ble_eq_true rfl⟩) ⟨fun a U g mk q => q, fun U hU hW => ⟨rfl, hU⟩⟩ rfl rfl hl.1 rfl (lv_room (Nat.le_of_ble_eq_true rfl)) dX0_lengthOf_5 ⟨Nat.le_of_ble_eq_true rfl, Nat.le_of_ble_eq_true rfl⟩) ?_
  refine kz_i2l hx hb (by have := monOf_rng cn; have := yearOf_rng hc; omega) dX0_lengthOf_8 ?_
  refine kc0 (fun _ q => q) (va_runS (As := [.long (lZ ((yearOf ((cn)))))]) (rest := [.int (iZ (monOf ((cn))))]) ⟨hx, hb, hml, hown, hts⟩ (c_X0_isLeapNumber l _ (((yearOf ((cn))))) (by have := monOf_rng cn; have := yearOf_rng hc; omega)) (va_cwS 1 hts (kg_S mw148 mw110 mw51 rfl mw111) rfl rfl rfl hdS_X0_isLeapNumber ⟨Nat.le_of_ble_eq_true rfl, Nat.le_of_ble_eq_true rfl⟩) ⟨fun a U g mk q => q, fun U hU hW => ⟨rfl, hU⟩⟩ rfl rfl hl.1 rfl (lv_room (Nat.le_of_ble_eq_true rfl)) dX0_lengthOf_9 ⟨Nat.le_of_ble_eq_true rfl, Nat.le_of_ble_eq_true rfl⟩) ?_
  refine kc0 (fun _ q => q) (va_runS (As := [.int (iZ (monOf ((cn)))), .int (iZ (bZ (leap ((((yearOf ((cn)))))))))]) (rest := []) ⟨hx, hb, hml, hown, hts⟩ (c_X0_monthLength l _ ((monOf ((cn)))) (leap ((((yearOf ((cn))))))) (by have := monOf_rng cn; have := yearOf_rng hc; omega)) (va_cwS 2 hts (kg_S mw149 mw150 mw51 rfl mw151) rfl rfl rfl hdS_X0_monthLength ⟨Nat.le_of_ble_eq_true rfl, Nat.le_of_ble_eq_true rfl⟩) ⟨fun a U g mk q => q, fun U hU hW => ⟨rfl, hU⟩⟩ rfl rfl hl.1 rfl (lv_room (Nat.le_of_ble_eq_true rfl)) dX0_lengthOf_12 ⟨Nat.le_of_ble_eq_true rfl, Nat.le_of_ble_eq_true rfl⟩) ?_
  exact W.iret (v := iZ (mlen ((leap ((((yearOf ((cn)))))))) (((monOf ((cn))))))) hx hb hr (fun t ht hW => ⟨congrArg (fun z : Int => Outcome.returned (some (Value.int (iZ z)))) (show (mlen ((leap ((((yearOf ((cn)))))))) (((monOf ((cn)))))) = (lenOf cn) from by rfl), ht⟩) (fun q h => by cases h) dX0_lengthOf_15

abbrev ww_X0_isDayOfCount : List Cond := .code yX0_isDayOfCount cX0_isDayOfCount 3 (some .boolean) :: gT
set_option maxHeartbeats 4000000 in
set_option maxRecDepth 100000 in
/-- X0_isDayOfCount -/
theorem c_X0_isDayOfCount (l : Launch) (H0 : Heap) (cn : Int) (dd : Int) (hc : -12000000000 ≤ cn ∧ cn ≤ 12000000000) (hd : -2147483648 ≤ dd ∧ dd < 2147483648) : Met l yX0_isDayOfCount ww_X0_isDayOfCount ({ frames := 3, cells := 0, slots := 0, locals := 67 }) (va_Pc [.long (lZ (cn)), .int (iZ dd)] (fun U => U.heap = H0)) (kQ0 (some (.int (iZ (bZ (decide (1 ≤ dd ∧ dd ≤ lenOf cn)))))) H0) 0 0 kN := by
  refine Met.ofW (cc := cX0_isDayOfCount) (maxL := 3) (ret := (some .boolean)) (by decide) rfl ?_
  intro p e s m args below meth c s₁ B hml hv
  obtain ⟨rfl, hH⟩ := hv
  subst hH
  have hx := B.exec
  have hb := B.bytes
  have hr := B.returns
  have hts := atoms_spec (ws := ww_X0_isDayOfCount) B.pre
  have hown : s.vm.findClass RX0 = some m.cls := findClass_of_methodNamed B.named
  have hlocks := B.notSynchronized
  have hl := lv_entry ([.long (lZ (cn)), .int (iZ dd)]) (n := 3) (Nat.le_of_ble_eq_true rfl)
  rw [lg_entry_eq]
  generalize (lg_sl ([.long (lZ (cn)), .int (iZ dd)]) ++ List.replicate (3 - (lg_sl ([.long (lZ (cn)), .int (iZ dd)])).length) Slot.unset).toArray = ls at hl ⊢
  have hl : lv_has ls 3 [(0, .long (lZ (cn))), (2, .int (iZ dd))] := hl
  refine lv_iload_n hx hb dX0_isDayOfCount_0 rfl (lv_at hl 1 rfl) ?_
  refine lv_iconst (v := iZ 1) hx hb dX0_isDayOfCount_1 rfl ?_
  refine kz_icmp_lt (tgt := 17) hx hb (by omega) (by omega) dX0_isDayOfCount_2 (by decide) (fun c_1 => ?_) (fun c_1 => ?_)
  · refine lv_iconst (v := iZ 0) hx hb dX0_isDayOfCount_17 rfl ?_
    exact W.zret (v := iZ 0) (ty := .boolean) hx hb hr rfl (fun t ht hW => ⟨congrArg (fun z : Int => Outcome.returned (some (Value.int (iZ z)))) (show 0 = (bZ (decide (1 ≤ dd ∧ dd ≤ lenOf cn))) from by exact bZ_d0 (by omega)), ht⟩) (fun q h => by cases h) dX0_isDayOfCount_18
  · refine lv_iload_n hx hb dX0_isDayOfCount_5 rfl (lv_at hl 1 rfl) ?_
    refine lv_lload_n hx hb dX0_isDayOfCount_6 rfl (lv_at hl 0 rfl) ?_
    refine kc0 (fun _ q => q) (va_runS (As := [.long (lZ (cn))]) (rest := [.int (iZ dd)]) ⟨hx, hb, hml, hown, hts⟩ (c_X0_lengthOf l _ (cn) (by omega)) (va_cwS 1 hts (kg_S mw160 mw133 mw51 rfl mw134) rfl rfl rfl hdS_X0_lengthOf ⟨Nat.le_of_ble_eq_true rfl, Nat.le_of_ble_eq_true rfl⟩) ⟨fun a U g mk q => q, fun U hU hW => ⟨rfl, hU⟩⟩ rfl rfl hl.1 rfl (lv_room (Nat.le_of_ble_eq_true rfl)) dX0_isDayOfCount_7 ⟨Nat.le_of_ble_eq_true rfl, Nat.le_of_ble_eq_true rfl⟩) ?_
    refine kz_icmp_gt (tgt := 17) hx hb (by have := mlen_rng (leap (yearOf cn)) (monOf cn); first | omega | (unfold lenOf; omega)) (by have := mlen_rng (leap (yearOf cn)) (monOf cn); first | omega | (unfold lenOf; omega)) dX0_isDayOfCount_10 (by decide) (fun c_2 => ?_) (fun c_2 => ?_)
    · refine lv_iconst (v := iZ 0) hx hb dX0_isDayOfCount_17 rfl ?_
      exact W.zret (v := iZ 0) (ty := .boolean) hx hb hr rfl (fun t ht hW => ⟨congrArg (fun z : Int => Outcome.returned (some (Value.int (iZ z)))) (show 0 = (bZ (decide (1 ≤ dd ∧ dd ≤ lenOf cn))) from by exact bZ_d0 (by omega)), ht⟩) (fun q h => by cases h) dX0_isDayOfCount_18
    · refine lv_iconst (v := iZ 1) hx hb dX0_isDayOfCount_13 rfl ?_
      refine lv_goto (tgt := 18) hx hb dX0_isDayOfCount_14 (by decide) ?_
      exact W.zret (v := iZ 1) (ty := .boolean) hx hb hr rfl (fun t ht hW => ⟨congrArg (fun z : Int => Outcome.returned (some (Value.int (iZ z)))) (show 1 = (bZ (decide (1 ≤ dd ∧ dd ≤ lenOf cn))) from by exact bZ_d1 (by omega)), ht⟩) (fun q h => by cases h) dX0_isDayOfCount_18

abbrev ww_X0_daysAheadOf : List Cond := .code yX0_daysAheadOf cX0_daysAheadOf 4 (some .int) :: gT
set_option maxHeartbeats 4000000 in
set_option maxRecDepth 100000 in
/-- X0_daysAheadOf -/
theorem c_X0_daysAheadOf (l : Launch) (H0 : Heap) (mo : Int) (b : Bool) (hm : 1 ≤ mo ∧ mo ≤ 13) : Met l yX0_daysAheadOf ww_X0_daysAheadOf ({ frames := 1, cells := 0, slots := 0, locals := 21 }) (va_Pc [.int (iZ mo), .int (iZ (bZ (b)))] (fun U => U.heap = H0)) (kQ0 (some (.int (iZ (ahead b mo)))) H0) 0 0 kN := by
  refine Met.ofW (cc := cX0_daysAheadOf) (maxL := 4) (ret := (some .int)) (by decide) rfl ?_
  intro p e s m args below meth c s₁ B hml hv
  obtain ⟨rfl, hH⟩ := hv
  subst hH
  have hx := B.exec
  have hb := B.bytes
  have hr := B.returns
  have hts := atoms_spec (ws := ww_X0_daysAheadOf) B.pre
  have hown : s.vm.findClass RX0 = some m.cls := findClass_of_methodNamed B.named
  have hlocks := B.notSynchronized
  have hl := lv_entry ([.int (iZ mo), .int (iZ (bZ (b)))]) (n := 4) (Nat.le_of_ble_eq_true rfl)
  rw [lg_entry_eq]
  generalize (lg_sl ([.int (iZ mo), .int (iZ (bZ (b)))]) ++ List.replicate (4 - (lg_sl ([.int (iZ mo), .int (iZ (bZ (b)))])).length) Slot.unset).toArray = ls at hl ⊢
  have hl : lv_has ls 4 [(0, .int (iZ mo)), (1, .int (iZ (bZ (b))))] := hl
  refine lv_iconst (v := iZ 0) hx hb dX0_daysAheadOf_0 rfl ?_
  refine lv_istore_n (lv' := [(2, .int (iZ 0)), (0, .int (iZ mo)), (1, .int (iZ (bZ (b))))]) hx hb dX0_daysAheadOf_1 rfl hl (by decide) rfl (fun ls hl => ?_)
  refine lv_iconst (v := iZ 1) hx hb dX0_daysAheadOf_2 rfl ?_
  refine lv_istore_n (lv' := [(3, .int (iZ 1)), (2, .int (iZ 0)), (0, .int (iZ mo)), (1, .int (iZ (bZ (b))))]) hx hb dX0_daysAheadOf_3 rfl hl (by decide) rfl (fun ls hl => ?_)
  refine k_loop (W := fun ls => W p l e _ s m _ below meth c s.heap [] 0 0 _ (F0 m 4 ls [])) (I := fun (k : Nat) ls => lv_has ls 4 [(2, .int (iZ (aheadN b k))), (3, .int (iZ (((k : Nat) : Int) + 1))), (0, .int (iZ mo)), (1, .int (iZ (bZ (b))))]) ((mo - 1).toNat) 0 (Nat.zero_le _) ((lv_sub hl [1, 0, 2, 3] rfl)) (fun ls hl => ?_) (fun k ls hk hl ih => ?_)
  · refine lv_iload_n hx hb dX0_daysAheadOf_4 rfl (lv_at hl 1 rfl) ?_
    refine lv_iload_n hx hb dX0_daysAheadOf_5 rfl (lv_at hl 2 rfl) ?_
    refine kz_icmp_ge (tgt := 23) hx hb (by omega) (by omega) dX0_daysAheadOf_6 (by decide) (fun c_1 => ?_) (fun c_1 => absurd c_1 (by omega))
    refine lv_iload_n hx hb dX0_daysAheadOf_23 rfl (lv_at hl 0 rfl) ?_
    exact W.iret (v := iZ (aheadN b ((mo - 1).toNat))) hx hb hr (fun t ht hW => ⟨congrArg (fun z : Int => Outcome.returned (some (Value.int (iZ z)))) (show (aheadN b ((mo - 1).toNat)) = (ahead b mo) from by rfl), ht⟩) (fun q h => by cases h) dX0_daysAheadOf_24
  · refine lv_iload_n hx hb dX0_daysAheadOf_4 rfl (lv_at hl 1 rfl) ?_
    refine lv_iload_n hx hb dX0_daysAheadOf_5 rfl (lv_at hl 2 rfl) ?_
    refine kz_icmp_ge (tgt := 23) hx hb (by omega) (by omega) dX0_daysAheadOf_6 (by decide) (fun c_2 => absurd c_2 (by omega)) (fun c_2 => ?_)
    refine lv_iload_n hx hb dX0_daysAheadOf_9 rfl (lv_at hl 0 rfl) ?_
    refine lv_iload_n hx hb dX0_daysAheadOf_10 rfl (lv_at hl 1 rfl) ?_
    refine lv_iload_n hx hb dX0_daysAheadOf_11 rfl (lv_at hl 3 rfl) ?_
    refine kc0 (fun _ q => q) (va_runS (As := [.int (iZ (((k : Nat) : Int) + 1)), .int (iZ (bZ (b)))]) (rest := [.int (iZ (aheadN b k))]) ⟨hx, hb, hml, hown, hts⟩ (c_X0_monthLength l _ ((((k : Nat) : Int) + 1)) (b) (by omega)) (va_cwS 2 hts (kg_S mw149 mw150 mw51 rfl mw151) rfl rfl rfl hdS_X0_monthLength ⟨Nat.le_of_ble_eq_true rfl, Nat.le_of_ble_eq_true rfl⟩) ⟨fun a U g mk q => q, fun U hU hW => ⟨rfl, hU⟩⟩ rfl rfl hl.1 rfl (lv_room (Nat.le_of_ble_eq_true rfl)) dX0_daysAheadOf_12 ⟨Nat.le_of_ble_eq_true rfl, Nat.le_of_ble_eq_true rfl⟩) ?_
    refine kz_iadd hx hb dX0_daysAheadOf_15 ?_
    refine lv_istore_n (lv' := [(2, .int (iZ ((aheadN b k) + (mlen ((b)) (((((k : Nat) : Int) + 1))))))), (3, .int (iZ (((k : Nat) : Int) + 1))), (0, .int (iZ mo)), (1, .int (iZ (bZ (b))))]) hx hb dX0_daysAheadOf_16 rfl hl (by decide) rfl (fun ls hl => ?_)
    refine lv_iinc (v := iZ ((((k : Nat) : Int) + 1) + 1)) (lv' := [(3, .int (iZ ((((k : Nat) : Int) + 1) + 1))), (2, .int (iZ ((aheadN b k) + (mlen ((b)) (((((k : Nat) : Int) + 1))))))), (0, .int (iZ mo)), (1, .int (iZ (bZ (b))))]) hx hb dX0_daysAheadOf_17 hl (k := 1) rfl (iZ_add _ _) (by decide) rfl (fun ls hl => ?_)
    refine lv_goto (tgt := 4) hx hb dX0_daysAheadOf_20 (by decide) ?_
    exact ih ls (by have h9 := lv_sub hl [1, 0, 2, 3] rfl; rw [show ((k : Nat) : Int) + 1 + 1 = ((k + 1 : Nat) : Int) + 1 from by omega] at h9; exact h9)

abbrev ww_X0_monthOfPlace : List Cond := .code yX0_monthOfPlace cX0_monthOfPlace 3 (some .int) :: gT
set_option maxHeartbeats 4000000 in
set_option maxRecDepth 100000 in
/-- X0_monthOfPlace -/
theorem c_X0_monthOfPlace (l : Launch) (H0 : Heap) (pl : Int) (b : Bool) (hp : -2147483648 ≤ pl ∧ pl < 2147483648) : Met l yX0_monthOfPlace ww_X0_monthOfPlace ({ frames := 2, cells := 0, slots := 0, locals := 44 }) (va_Pc [.int (iZ pl), .int (iZ (bZ (b)))] (fun U => U.heap = H0)) (kQ0 (some (.int (iZ (mop b pl)))) H0) 0 0 kN := by
  refine Met.ofW (cc := cX0_monthOfPlace) (maxL := 3) (ret := (some .int)) (by decide) rfl ?_
  intro p e s m args below meth c s₁ B hml hv
  obtain ⟨rfl, hH⟩ := hv
  subst hH
  have hx := B.exec
  have hb := B.bytes
  have hr := B.returns
  have hts := atoms_spec (ws := ww_X0_monthOfPlace) B.pre
  have hown : s.vm.findClass RX0 = some m.cls := findClass_of_methodNamed B.named
  have hlocks := B.notSynchronized
  have hl := lv_entry ([.int (iZ pl), .int (iZ (bZ (b)))]) (n := 3) (Nat.le_of_ble_eq_true rfl)
  rw [lg_entry_eq]
  generalize (lg_sl ([.int (iZ pl), .int (iZ (bZ (b)))]) ++ List.replicate (3 - (lg_sl ([.int (iZ pl), .int (iZ (bZ (b)))])).length) Slot.unset).toArray = ls at hl ⊢
  have hl : lv_has ls 3 [(0, .int (iZ pl)), (1, .int (iZ (bZ (b))))] := hl
  refine lv_iconst (v := iZ 1) hx hb dX0_monthOfPlace_0 rfl ?_
  refine lv_istore_n (lv' := [(2, .int (iZ 1)), (0, .int (iZ pl)), (1, .int (iZ (bZ (b))))]) hx hb dX0_monthOfPlace_1 rfl hl (by decide) rfl (fun ls hl => ?_)
  refine lv_iload_n hx hb dX0_monthOfPlace_2 rfl (lv_at hl 0 rfl) ?_
  refine lv_bipush (v := iZ 12) hx hb dX0_monthOfPlace_3 rfl ?_
  refine kz_icmp_ge (tgt := 25) hx hb (by first | omega | exact ahead_rngI b (by omega)) (by first | omega | exact ahead_rngI b (by omega)) dX0_monthOfPlace_5 (by decide) (fun c_1 => absurd c_1 (by omega)) (fun c_1 => ?_)
  refine lv_iload_n hx hb dX0_monthOfPlace_8 rfl (lv_at hl 1 rfl) ?_
  refine lv_iload_n hx hb dX0_monthOfPlace_9 rfl (lv_at hl 0 rfl) ?_
  refine lv_iconst (v := iZ 1) hx hb dX0_monthOfPlace_10 rfl ?_
  refine kz_iadd hx hb dX0_monthOfPlace_11 ?_
  refine lv_iload_n hx hb dX0_monthOfPlace_12 rfl (lv_at hl 2 rfl) ?_
  refine kc0 (fun _ q => q) (va_runS (As := [.int (iZ 2), .int (iZ (bZ (b)))]) (rest := [.int (iZ pl)]) ⟨hx, hb, hml, hown, hts⟩ (c_X0_daysAheadOf l _ (2) (b) (by omega)) (va_cwS 2 hts (kg_S mw168 mw169 mw51 rfl mw170) rfl rfl rfl hdS_X0_daysAheadOf ⟨Nat.le_of_ble_eq_true rfl, Nat.le_of_ble_eq_true rfl⟩) ⟨fun a U g mk q => q, fun U hU hW => ⟨rfl, hU⟩⟩ rfl rfl hl.1 rfl (lv_room (Nat.le_of_ble_eq_true rfl)) dX0_monthOfPlace_13 ⟨Nat.le_of_ble_eq_true rfl, Nat.le_of_ble_eq_true rfl⟩) ?_
  refine kz_icmp_le (tgt := 25) hx hb (by first | omega | exact ahead_rngI b (by omega)) (by first | omega | exact ahead_rngI b (by omega)) dX0_monthOfPlace_16 (by decide) (fun c_2 => ?_) (fun c_2 => ?_)
  · refine lv_iload_n hx hb dX0_monthOfPlace_25 rfl (lv_at hl 0 rfl) ?_
    exact W.iret (v := iZ 1) hx hb hr (fun t ht hW => ⟨congrArg (fun z : Int => Outcome.returned (some (Value.int (iZ z)))) (show 1 = (mop b pl) from by have q2 := ahead_rng b (m := 2) (by omega); unfold mop; simp [*]), ht⟩) (fun q h => by cases h) dX0_monthOfPlace_26
  · refine lv_iinc (v := iZ (2)) (lv' := [(2, .int (iZ 2)), (0, .int (iZ pl)), (1, .int (iZ (bZ (b))))]) hx hb dX0_monthOfPlace_19 hl (k := 0) rfl rfl (by decide) rfl (fun ls hl => ?_)
    refine lv_goto (tgt := 2) hx hb dX0_monthOfPlace_22 (by decide) ?_
    refine lv_iload_n hx hb dX0_monthOfPlace_2 rfl (lv_at hl 0 rfl) ?_
    refine lv_bipush (v := iZ 12) hx hb dX0_monthOfPlace_3 rfl ?_
    refine kz_icmp_ge (tgt := 25) hx hb (by first | omega | exact ahead_rngI b (by omega)) (by first | omega | exact ahead_rngI b (by omega)) dX0_monthOfPlace_5 (by decide) (fun c_3 => absurd c_3 (by omega)) (fun c_3 => ?_)
    refine lv_iload_n hx hb dX0_monthOfPlace_8 rfl (lv_at hl 1 rfl) ?_
    refine lv_iload_n hx hb dX0_monthOfPlace_9 rfl (lv_at hl 0 rfl) ?_
    refine lv_iconst (v := iZ 1) hx hb dX0_monthOfPlace_10 rfl ?_
    refine kz_iadd hx hb dX0_monthOfPlace_11 ?_
    refine lv_iload_n hx hb dX0_monthOfPlace_12 rfl (lv_at hl 2 rfl) ?_
    refine kc0 (fun _ q => q) (va_runS (As := [.int (iZ 3), .int (iZ (bZ (b)))]) (rest := [.int (iZ pl)]) ⟨hx, hb, hml, hown, hts⟩ (c_X0_daysAheadOf l _ (3) (b) (by omega)) (va_cwS 2 hts (kg_S mw168 mw169 mw51 rfl mw170) rfl rfl rfl hdS_X0_daysAheadOf ⟨Nat.le_of_ble_eq_true rfl, Nat.le_of_ble_eq_true rfl⟩) ⟨fun a U g mk q => q, fun U hU hW => ⟨rfl, hU⟩⟩ rfl rfl hl.1 rfl (lv_room (Nat.le_of_ble_eq_true rfl)) dX0_monthOfPlace_13 ⟨Nat.le_of_ble_eq_true rfl, Nat.le_of_ble_eq_true rfl⟩) ?_
    refine kz_icmp_le (tgt := 25) hx hb (by first | omega | exact ahead_rngI b (by omega)) (by first | omega | exact ahead_rngI b (by omega)) dX0_monthOfPlace_16 (by decide) (fun c_4 => ?_) (fun c_4 => ?_)
    · refine lv_iload_n hx hb dX0_monthOfPlace_25 rfl (lv_at hl 0 rfl) ?_
      exact W.iret (v := iZ 2) hx hb hr (fun t ht hW => ⟨congrArg (fun z : Int => Outcome.returned (some (Value.int (iZ z)))) (show 2 = (mop b pl) from by have q2 := ahead_rng b (m := 2) (by omega); unfold mop; simp [*]), ht⟩) (fun q h => by cases h) dX0_monthOfPlace_26
    · refine lv_iinc (v := iZ (3)) (lv' := [(2, .int (iZ 3)), (0, .int (iZ pl)), (1, .int (iZ (bZ (b))))]) hx hb dX0_monthOfPlace_19 hl (k := 0) rfl rfl (by decide) rfl (fun ls hl => ?_)
      refine lv_goto (tgt := 2) hx hb dX0_monthOfPlace_22 (by decide) ?_
      refine lv_iload_n hx hb dX0_monthOfPlace_2 rfl (lv_at hl 0 rfl) ?_
      refine lv_bipush (v := iZ 12) hx hb dX0_monthOfPlace_3 rfl ?_
      refine kz_icmp_ge (tgt := 25) hx hb (by first | omega | exact ahead_rngI b (by omega)) (by first | omega | exact ahead_rngI b (by omega)) dX0_monthOfPlace_5 (by decide) (fun c_5 => absurd c_5 (by omega)) (fun c_5 => ?_)
      refine lv_iload_n hx hb dX0_monthOfPlace_8 rfl (lv_at hl 1 rfl) ?_
      refine lv_iload_n hx hb dX0_monthOfPlace_9 rfl (lv_at hl 0 rfl) ?_
      refine lv_iconst (v := iZ 1) hx hb dX0_monthOfPlace_10 rfl ?_
      refine kz_iadd hx hb dX0_monthOfPlace_11 ?_
      refine lv_iload_n hx hb dX0_monthOfPlace_12 rfl (lv_at hl 2 rfl) ?_
      refine kc0 (fun _ q => q) (va_runS (As := [.int (iZ 4), .int (iZ (bZ (b)))]) (rest := [.int (iZ pl)]) ⟨hx, hb, hml, hown, hts⟩ (c_X0_daysAheadOf l _ (4) (b) (by omega)) (va_cwS 2 hts (kg_S mw168 mw169 mw51 rfl mw170) rfl rfl rfl hdS_X0_daysAheadOf ⟨Nat.le_of_ble_eq_true rfl, Nat.le_of_ble_eq_true rfl⟩) ⟨fun a U g mk q => q, fun U hU hW => ⟨rfl, hU⟩⟩ rfl rfl hl.1 rfl (lv_room (Nat.le_of_ble_eq_true rfl)) dX0_monthOfPlace_13 ⟨Nat.le_of_ble_eq_true rfl, Nat.le_of_ble_eq_true rfl⟩) ?_
      refine kz_icmp_le (tgt := 25) hx hb (by first | omega | exact ahead_rngI b (by omega)) (by first | omega | exact ahead_rngI b (by omega)) dX0_monthOfPlace_16 (by decide) (fun c_6 => ?_) (fun c_6 => ?_)
      · refine lv_iload_n hx hb dX0_monthOfPlace_25 rfl (lv_at hl 0 rfl) ?_
        exact W.iret (v := iZ 3) hx hb hr (fun t ht hW => ⟨congrArg (fun z : Int => Outcome.returned (some (Value.int (iZ z)))) (show 3 = (mop b pl) from by have q2 := ahead_rng b (m := 2) (by omega); unfold mop; simp [*]), ht⟩) (fun q h => by cases h) dX0_monthOfPlace_26
      · refine lv_iinc (v := iZ (4)) (lv' := [(2, .int (iZ 4)), (0, .int (iZ pl)), (1, .int (iZ (bZ (b))))]) hx hb dX0_monthOfPlace_19 hl (k := 0) rfl rfl (by decide) rfl (fun ls hl => ?_)
        refine lv_goto (tgt := 2) hx hb dX0_monthOfPlace_22 (by decide) ?_
        refine lv_iload_n hx hb dX0_monthOfPlace_2 rfl (lv_at hl 0 rfl) ?_
        refine lv_bipush (v := iZ 12) hx hb dX0_monthOfPlace_3 rfl ?_
        refine kz_icmp_ge (tgt := 25) hx hb (by first | omega | exact ahead_rngI b (by omega)) (by first | omega | exact ahead_rngI b (by omega)) dX0_monthOfPlace_5 (by decide) (fun c_7 => absurd c_7 (by omega)) (fun c_7 => ?_)
        refine lv_iload_n hx hb dX0_monthOfPlace_8 rfl (lv_at hl 1 rfl) ?_
        refine lv_iload_n hx hb dX0_monthOfPlace_9 rfl (lv_at hl 0 rfl) ?_
        refine lv_iconst (v := iZ 1) hx hb dX0_monthOfPlace_10 rfl ?_
        refine kz_iadd hx hb dX0_monthOfPlace_11 ?_
        refine lv_iload_n hx hb dX0_monthOfPlace_12 rfl (lv_at hl 2 rfl) ?_
        refine kc0 (fun _ q => q) (va_runS (As := [.int (iZ 5), .int (iZ (bZ (b)))]) (rest := [.int (iZ pl)]) ⟨hx, hb, hml, hown, hts⟩ (c_X0_daysAheadOf l _ (5) (b) (by omega)) (va_cwS 2 hts (kg_S mw168 mw169 mw51 rfl mw170) rfl rfl rfl hdS_X0_daysAheadOf ⟨Nat.le_of_ble_eq_true rfl, Nat.le_of_ble_eq_true rfl⟩) ⟨fun a U g mk q => q, fun U hU hW => ⟨rfl, hU⟩⟩ rfl rfl hl.1 rfl (lv_room (Nat.le_of_ble_eq_true rfl)) dX0_monthOfPlace_13 ⟨Nat.le_of_ble_eq_true rfl, Nat.le_of_ble_eq_true rfl⟩) ?_
        refine kz_icmp_le (tgt := 25) hx hb (by first | omega | exact ahead_rngI b (by omega)) (by first | omega | exact ahead_rngI b (by omega)) dX0_monthOfPlace_16 (by decide) (fun c_8 => ?_) (fun c_8 => ?_)
        · refine lv_iload_n hx hb dX0_monthOfPlace_25 rfl (lv_at hl 0 rfl) ?_
          exact W.iret (v := iZ 4) hx hb hr (fun t ht hW => ⟨congrArg (fun z : Int => Outcome.returned (some (Value.int (iZ z)))) (show 4 = (mop b pl) from by have q2 := ahead_rng b (m := 2) (by omega); unfold mop; simp [*]), ht⟩) (fun q h => by cases h) dX0_monthOfPlace_26
        · refine lv_iinc (v := iZ (5)) (lv' := [(2, .int (iZ 5)), (0, .int (iZ pl)), (1, .int (iZ (bZ (b))))]) hx hb dX0_monthOfPlace_19 hl (k := 0) rfl rfl (by decide) rfl (fun ls hl => ?_)
          refine lv_goto (tgt := 2) hx hb dX0_monthOfPlace_22 (by decide) ?_
          refine lv_iload_n hx hb dX0_monthOfPlace_2 rfl (lv_at hl 0 rfl) ?_
          refine lv_bipush (v := iZ 12) hx hb dX0_monthOfPlace_3 rfl ?_
          refine kz_icmp_ge (tgt := 25) hx hb (by first | omega | exact ahead_rngI b (by omega)) (by first | omega | exact ahead_rngI b (by omega)) dX0_monthOfPlace_5 (by decide) (fun c_9 => absurd c_9 (by omega)) (fun c_9 => ?_)
          refine lv_iload_n hx hb dX0_monthOfPlace_8 rfl (lv_at hl 1 rfl) ?_
          refine lv_iload_n hx hb dX0_monthOfPlace_9 rfl (lv_at hl 0 rfl) ?_
          refine lv_iconst (v := iZ 1) hx hb dX0_monthOfPlace_10 rfl ?_
          refine kz_iadd hx hb dX0_monthOfPlace_11 ?_
          refine lv_iload_n hx hb dX0_monthOfPlace_12 rfl (lv_at hl 2 rfl) ?_
          refine kc0 (fun _ q => q) (va_runS (As := [.int (iZ 6), .int (iZ (bZ (b)))]) (rest := [.int (iZ pl)]) ⟨hx, hb, hml, hown, hts⟩ (c_X0_daysAheadOf l _ (6) (b) (by omega)) (va_cwS 2 hts (kg_S mw168 mw169 mw51 rfl mw170) rfl rfl rfl hdS_X0_daysAheadOf ⟨Nat.le_of_ble_eq_true rfl, Nat.le_of_ble_eq_true rfl⟩) ⟨fun a U g mk q => q, fun U hU hW => ⟨rfl, hU⟩⟩ rfl rfl hl.1 rfl (lv_room (Nat.le_of_ble_eq_true rfl)) dX0_monthOfPlace_13 ⟨Nat.le_of_ble_eq_true rfl, Nat.le_of_ble_eq_true rfl⟩) ?_
          refine kz_icmp_le (tgt := 25) hx hb (by first | omega | exact ahead_rngI b (by omega)) (by first | omega | exact ahead_rngI b (by omega)) dX0_monthOfPlace_16 (by decide) (fun c_10 => ?_) (fun c_10 => ?_)
          · refine lv_iload_n hx hb dX0_monthOfPlace_25 rfl (lv_at hl 0 rfl) ?_
            exact W.iret (v := iZ 5) hx hb hr (fun t ht hW => ⟨congrArg (fun z : Int => Outcome.returned (some (Value.int (iZ z)))) (show 5 = (mop b pl) from by have q2 := ahead_rng b (m := 2) (by omega); unfold mop; simp [*]), ht⟩) (fun q h => by cases h) dX0_monthOfPlace_26
          · refine lv_iinc (v := iZ (6)) (lv' := [(2, .int (iZ 6)), (0, .int (iZ pl)), (1, .int (iZ (bZ (b))))]) hx hb dX0_monthOfPlace_19 hl (k := 0) rfl rfl (by decide) rfl (fun ls hl => ?_)
            refine lv_goto (tgt := 2) hx hb dX0_monthOfPlace_22 (by decide) ?_
            refine lv_iload_n hx hb dX0_monthOfPlace_2 rfl (lv_at hl 0 rfl) ?_
            refine lv_bipush (v := iZ 12) hx hb dX0_monthOfPlace_3 rfl ?_
            refine kz_icmp_ge (tgt := 25) hx hb (by first | omega | exact ahead_rngI b (by omega)) (by first | omega | exact ahead_rngI b (by omega)) dX0_monthOfPlace_5 (by decide) (fun c_11 => absurd c_11 (by omega)) (fun c_11 => ?_)
            refine lv_iload_n hx hb dX0_monthOfPlace_8 rfl (lv_at hl 1 rfl) ?_
            refine lv_iload_n hx hb dX0_monthOfPlace_9 rfl (lv_at hl 0 rfl) ?_
            refine lv_iconst (v := iZ 1) hx hb dX0_monthOfPlace_10 rfl ?_
            refine kz_iadd hx hb dX0_monthOfPlace_11 ?_
            refine lv_iload_n hx hb dX0_monthOfPlace_12 rfl (lv_at hl 2 rfl) ?_
            refine kc0 (fun _ q => q) (va_runS (As := [.int (iZ 7), .int (iZ (bZ (b)))]) (rest := [.int (iZ pl)]) ⟨hx, hb, hml, hown, hts⟩ (c_X0_daysAheadOf l _ (7) (b) (by omega)) (va_cwS 2 hts (kg_S mw168 mw169 mw51 rfl mw170) rfl rfl rfl hdS_X0_daysAheadOf ⟨Nat.le_of_ble_eq_true rfl, Nat.le_of_ble_eq_true rfl⟩) ⟨fun a U g mk q => q, fun U hU hW => ⟨rfl, hU⟩⟩ rfl rfl hl.1 rfl (lv_room (Nat.le_of_ble_eq_true rfl)) dX0_monthOfPlace_13 ⟨Nat.le_of_ble_eq_true rfl, Nat.le_of_ble_eq_true rfl⟩) ?_
            refine kz_icmp_le (tgt := 25) hx hb (by first | omega | exact ahead_rngI b (by omega)) (by first | omega | exact ahead_rngI b (by omega)) dX0_monthOfPlace_16 (by decide) (fun c_12 => ?_) (fun c_12 => ?_)
            · refine lv_iload_n hx hb dX0_monthOfPlace_25 rfl (lv_at hl 0 rfl) ?_
              exact W.iret (v := iZ 6) hx hb hr (fun t ht hW => ⟨congrArg (fun z : Int => Outcome.returned (some (Value.int (iZ z)))) (show 6 = (mop b pl) from by have q2 := ahead_rng b (m := 2) (by omega); unfold mop; simp [*]), ht⟩) (fun q h => by cases h) dX0_monthOfPlace_26
            · refine lv_iinc (v := iZ (7)) (lv' := [(2, .int (iZ 7)), (0, .int (iZ pl)), (1, .int (iZ (bZ (b))))]) hx hb dX0_monthOfPlace_19 hl (k := 0) rfl rfl (by decide) rfl (fun ls hl => ?_)
              refine lv_goto (tgt := 2) hx hb dX0_monthOfPlace_22 (by decide) ?_
              refine lv_iload_n hx hb dX0_monthOfPlace_2 rfl (lv_at hl 0 rfl) ?_
              refine lv_bipush (v := iZ 12) hx hb dX0_monthOfPlace_3 rfl ?_
              refine kz_icmp_ge (tgt := 25) hx hb (by first | omega | exact ahead_rngI b (by omega)) (by first | omega | exact ahead_rngI b (by omega)) dX0_monthOfPlace_5 (by decide) (fun c_13 => absurd c_13 (by omega)) (fun c_13 => ?_)
              refine lv_iload_n hx hb dX0_monthOfPlace_8 rfl (lv_at hl 1 rfl) ?_
              refine lv_iload_n hx hb dX0_monthOfPlace_9 rfl (lv_at hl 0 rfl) ?_
              refine lv_iconst (v := iZ 1) hx hb dX0_monthOfPlace_10 rfl ?_
              refine kz_iadd hx hb dX0_monthOfPlace_11 ?_
              refine lv_iload_n hx hb dX0_monthOfPlace_12 rfl (lv_at hl 2 rfl) ?_
              refine kc0 (fun _ q => q) (va_runS (As := [.int (iZ 8), .int (iZ (bZ (b)))]) (rest := [.int (iZ pl)]) ⟨hx, hb, hml, hown, hts⟩ (c_X0_daysAheadOf l _ (8) (b) (by omega)) (va_cwS 2 hts (kg_S mw168 mw169 mw51 rfl mw170) rfl rfl rfl hdS_X0_daysAheadOf ⟨Nat.le_of_ble_eq_true rfl, Nat.le_of_ble_eq_true rfl⟩) ⟨fun a U g mk q => q, fun U hU hW => ⟨rfl, hU⟩⟩ rfl rfl hl.1 rfl (lv_room (Nat.le_of_ble_eq_true rfl)) dX0_monthOfPlace_13 ⟨Nat.le_of_ble_eq_true rfl, Nat.le_of_ble_eq_true rfl⟩) ?_
              refine kz_icmp_le (tgt := 25) hx hb (by first | omega | exact ahead_rngI b (by omega)) (by first | omega | exact ahead_rngI b (by omega)) dX0_monthOfPlace_16 (by decide) (fun c_14 => ?_) (fun c_14 => ?_)
              · refine lv_iload_n hx hb dX0_monthOfPlace_25 rfl (lv_at hl 0 rfl) ?_
                exact W.iret (v := iZ 7) hx hb hr (fun t ht hW => ⟨congrArg (fun z : Int => Outcome.returned (some (Value.int (iZ z)))) (show 7 = (mop b pl) from by have q2 := ahead_rng b (m := 2) (by omega); unfold mop; simp [*]), ht⟩) (fun q h => by cases h) dX0_monthOfPlace_26
              · refine lv_iinc (v := iZ (8)) (lv' := [(2, .int (iZ 8)), (0, .int (iZ pl)), (1, .int (iZ (bZ (b))))]) hx hb dX0_monthOfPlace_19 hl (k := 0) rfl rfl (by decide) rfl (fun ls hl => ?_)
                refine lv_goto (tgt := 2) hx hb dX0_monthOfPlace_22 (by decide) ?_
                refine lv_iload_n hx hb dX0_monthOfPlace_2 rfl (lv_at hl 0 rfl) ?_
                refine lv_bipush (v := iZ 12) hx hb dX0_monthOfPlace_3 rfl ?_
                refine kz_icmp_ge (tgt := 25) hx hb (by first | omega | exact ahead_rngI b (by omega)) (by first | omega | exact ahead_rngI b (by omega)) dX0_monthOfPlace_5 (by decide) (fun c_15 => absurd c_15 (by omega)) (fun c_15 => ?_)
                refine lv_iload_n hx hb dX0_monthOfPlace_8 rfl (lv_at hl 1 rfl) ?_
                refine lv_iload_n hx hb dX0_monthOfPlace_9 rfl (lv_at hl 0 rfl) ?_
                refine lv_iconst (v := iZ 1) hx hb dX0_monthOfPlace_10 rfl ?_
                refine kz_iadd hx hb dX0_monthOfPlace_11 ?_
                refine lv_iload_n hx hb dX0_monthOfPlace_12 rfl (lv_at hl 2 rfl) ?_
                refine kc0 (fun _ q => q) (va_runS (As := [.int (iZ 9), .int (iZ (bZ (b)))]) (rest := [.int (iZ pl)]) ⟨hx, hb, hml, hown, hts⟩ (c_X0_daysAheadOf l _ (9) (b) (by omega)) (va_cwS 2 hts (kg_S mw168 mw169 mw51 rfl mw170) rfl rfl rfl hdS_X0_daysAheadOf ⟨Nat.le_of_ble_eq_true rfl, Nat.le_of_ble_eq_true rfl⟩) ⟨fun a U g mk q => q, fun U hU hW => ⟨rfl, hU⟩⟩ rfl rfl hl.1 rfl (lv_room (Nat.le_of_ble_eq_true rfl)) dX0_monthOfPlace_13 ⟨Nat.le_of_ble_eq_true rfl, Nat.le_of_ble_eq_true rfl⟩) ?_
                refine kz_icmp_le (tgt := 25) hx hb (by first | omega | exact ahead_rngI b (by omega)) (by first | omega | exact ahead_rngI b (by omega)) dX0_monthOfPlace_16 (by decide) (fun c_16 => ?_) (fun c_16 => ?_)
                · refine lv_iload_n hx hb dX0_monthOfPlace_25 rfl (lv_at hl 0 rfl) ?_
                  exact W.iret (v := iZ 8) hx hb hr (fun t ht hW => ⟨congrArg (fun z : Int => Outcome.returned (some (Value.int (iZ z)))) (show 8 = (mop b pl) from by have q2 := ahead_rng b (m := 2) (by omega); unfold mop; simp [*]), ht⟩) (fun q h => by cases h) dX0_monthOfPlace_26
                · refine lv_iinc (v := iZ (9)) (lv' := [(2, .int (iZ 9)), (0, .int (iZ pl)), (1, .int (iZ (bZ (b))))]) hx hb dX0_monthOfPlace_19 hl (k := 0) rfl rfl (by decide) rfl (fun ls hl => ?_)
                  refine lv_goto (tgt := 2) hx hb dX0_monthOfPlace_22 (by decide) ?_
                  refine lv_iload_n hx hb dX0_monthOfPlace_2 rfl (lv_at hl 0 rfl) ?_
                  refine lv_bipush (v := iZ 12) hx hb dX0_monthOfPlace_3 rfl ?_
                  refine kz_icmp_ge (tgt := 25) hx hb (by first | omega | exact ahead_rngI b (by omega)) (by first | omega | exact ahead_rngI b (by omega)) dX0_monthOfPlace_5 (by decide) (fun c_17 => absurd c_17 (by omega)) (fun c_17 => ?_)
                  refine lv_iload_n hx hb dX0_monthOfPlace_8 rfl (lv_at hl 1 rfl) ?_
                  refine lv_iload_n hx hb dX0_monthOfPlace_9 rfl (lv_at hl 0 rfl) ?_
                  refine lv_iconst (v := iZ 1) hx hb dX0_monthOfPlace_10 rfl ?_
                  refine kz_iadd hx hb dX0_monthOfPlace_11 ?_
                  refine lv_iload_n hx hb dX0_monthOfPlace_12 rfl (lv_at hl 2 rfl) ?_
                  refine kc0 (fun _ q => q) (va_runS (As := [.int (iZ 10), .int (iZ (bZ (b)))]) (rest := [.int (iZ pl)]) ⟨hx, hb, hml, hown, hts⟩ (c_X0_daysAheadOf l _ (10) (b) (by omega)) (va_cwS 2 hts (kg_S mw168 mw169 mw51 rfl mw170) rfl rfl rfl hdS_X0_daysAheadOf ⟨Nat.le_of_ble_eq_true rfl, Nat.le_of_ble_eq_true rfl⟩) ⟨fun a U g mk q => q, fun U hU hW => ⟨rfl, hU⟩⟩ rfl rfl hl.1 rfl (lv_room (Nat.le_of_ble_eq_true rfl)) dX0_monthOfPlace_13 ⟨Nat.le_of_ble_eq_true rfl, Nat.le_of_ble_eq_true rfl⟩) ?_
                  refine kz_icmp_le (tgt := 25) hx hb (by first | omega | exact ahead_rngI b (by omega)) (by first | omega | exact ahead_rngI b (by omega)) dX0_monthOfPlace_16 (by decide) (fun c_18 => ?_) (fun c_18 => ?_)
                  · refine lv_iload_n hx hb dX0_monthOfPlace_25 rfl (lv_at hl 0 rfl) ?_
                    exact W.iret (v := iZ 9) hx hb hr (fun t ht hW => ⟨congrArg (fun z : Int => Outcome.returned (some (Value.int (iZ z)))) (show 9 = (mop b pl) from by have q2 := ahead_rng b (m := 2) (by omega); unfold mop; simp [*]), ht⟩) (fun q h => by cases h) dX0_monthOfPlace_26
                  · refine lv_iinc (v := iZ (10)) (lv' := [(2, .int (iZ 10)), (0, .int (iZ pl)), (1, .int (iZ (bZ (b))))]) hx hb dX0_monthOfPlace_19 hl (k := 0) rfl rfl (by decide) rfl (fun ls hl => ?_)
                    refine lv_goto (tgt := 2) hx hb dX0_monthOfPlace_22 (by decide) ?_
                    refine lv_iload_n hx hb dX0_monthOfPlace_2 rfl (lv_at hl 0 rfl) ?_
                    refine lv_bipush (v := iZ 12) hx hb dX0_monthOfPlace_3 rfl ?_
                    refine kz_icmp_ge (tgt := 25) hx hb (by first | omega | exact ahead_rngI b (by omega)) (by first | omega | exact ahead_rngI b (by omega)) dX0_monthOfPlace_5 (by decide) (fun c_19 => absurd c_19 (by omega)) (fun c_19 => ?_)
                    refine lv_iload_n hx hb dX0_monthOfPlace_8 rfl (lv_at hl 1 rfl) ?_
                    refine lv_iload_n hx hb dX0_monthOfPlace_9 rfl (lv_at hl 0 rfl) ?_
                    refine lv_iconst (v := iZ 1) hx hb dX0_monthOfPlace_10 rfl ?_
                    refine kz_iadd hx hb dX0_monthOfPlace_11 ?_
                    refine lv_iload_n hx hb dX0_monthOfPlace_12 rfl (lv_at hl 2 rfl) ?_
                    refine kc0 (fun _ q => q) (va_runS (As := [.int (iZ 11), .int (iZ (bZ (b)))]) (rest := [.int (iZ pl)]) ⟨hx, hb, hml, hown, hts⟩ (c_X0_daysAheadOf l _ (11) (b) (by omega)) (va_cwS 2 hts (kg_S mw168 mw169 mw51 rfl mw170) rfl rfl rfl hdS_X0_daysAheadOf ⟨Nat.le_of_ble_eq_true rfl, Nat.le_of_ble_eq_true rfl⟩) ⟨fun a U g mk q => q, fun U hU hW => ⟨rfl, hU⟩⟩ rfl rfl hl.1 rfl (lv_room (Nat.le_of_ble_eq_true rfl)) dX0_monthOfPlace_13 ⟨Nat.le_of_ble_eq_true rfl, Nat.le_of_ble_eq_true rfl⟩) ?_
                    refine kz_icmp_le (tgt := 25) hx hb (by first | omega | exact ahead_rngI b (by omega)) (by first | omega | exact ahead_rngI b (by omega)) dX0_monthOfPlace_16 (by decide) (fun c_20 => ?_) (fun c_20 => ?_)
                    · refine lv_iload_n hx hb dX0_monthOfPlace_25 rfl (lv_at hl 0 rfl) ?_
                      exact W.iret (v := iZ 10) hx hb hr (fun t ht hW => ⟨congrArg (fun z : Int => Outcome.returned (some (Value.int (iZ z)))) (show 10 = (mop b pl) from by have q2 := ahead_rng b (m := 2) (by omega); unfold mop; simp [*]), ht⟩) (fun q h => by cases h) dX0_monthOfPlace_26
                    · refine lv_iinc (v := iZ (11)) (lv' := [(2, .int (iZ 11)), (0, .int (iZ pl)), (1, .int (iZ (bZ (b))))]) hx hb dX0_monthOfPlace_19 hl (k := 0) rfl rfl (by decide) rfl (fun ls hl => ?_)
                      refine lv_goto (tgt := 2) hx hb dX0_monthOfPlace_22 (by decide) ?_
                      refine lv_iload_n hx hb dX0_monthOfPlace_2 rfl (lv_at hl 0 rfl) ?_
                      refine lv_bipush (v := iZ 12) hx hb dX0_monthOfPlace_3 rfl ?_
                      refine kz_icmp_ge (tgt := 25) hx hb (by first | omega | exact ahead_rngI b (by omega)) (by first | omega | exact ahead_rngI b (by omega)) dX0_monthOfPlace_5 (by decide) (fun c_21 => absurd c_21 (by omega)) (fun c_21 => ?_)
                      refine lv_iload_n hx hb dX0_monthOfPlace_8 rfl (lv_at hl 1 rfl) ?_
                      refine lv_iload_n hx hb dX0_monthOfPlace_9 rfl (lv_at hl 0 rfl) ?_
                      refine lv_iconst (v := iZ 1) hx hb dX0_monthOfPlace_10 rfl ?_
                      refine kz_iadd hx hb dX0_monthOfPlace_11 ?_
                      refine lv_iload_n hx hb dX0_monthOfPlace_12 rfl (lv_at hl 2 rfl) ?_
                      refine kc0 (fun _ q => q) (va_runS (As := [.int (iZ 12), .int (iZ (bZ (b)))]) (rest := [.int (iZ pl)]) ⟨hx, hb, hml, hown, hts⟩ (c_X0_daysAheadOf l _ (12) (b) (by omega)) (va_cwS 2 hts (kg_S mw168 mw169 mw51 rfl mw170) rfl rfl rfl hdS_X0_daysAheadOf ⟨Nat.le_of_ble_eq_true rfl, Nat.le_of_ble_eq_true rfl⟩) ⟨fun a U g mk q => q, fun U hU hW => ⟨rfl, hU⟩⟩ rfl rfl hl.1 rfl (lv_room (Nat.le_of_ble_eq_true rfl)) dX0_monthOfPlace_13 ⟨Nat.le_of_ble_eq_true rfl, Nat.le_of_ble_eq_true rfl⟩) ?_
                      refine kz_icmp_le (tgt := 25) hx hb (by first | omega | exact ahead_rngI b (by omega)) (by first | omega | exact ahead_rngI b (by omega)) dX0_monthOfPlace_16 (by decide) (fun c_22 => ?_) (fun c_22 => ?_)
                      · refine lv_iload_n hx hb dX0_monthOfPlace_25 rfl (lv_at hl 0 rfl) ?_
                        exact W.iret (v := iZ 11) hx hb hr (fun t ht hW => ⟨congrArg (fun z : Int => Outcome.returned (some (Value.int (iZ z)))) (show 11 = (mop b pl) from by have q2 := ahead_rng b (m := 2) (by omega); unfold mop; simp [*]), ht⟩) (fun q h => by cases h) dX0_monthOfPlace_26
                      · refine lv_iinc (v := iZ (12)) (lv' := [(2, .int (iZ 12)), (0, .int (iZ pl)), (1, .int (iZ (bZ (b))))]) hx hb dX0_monthOfPlace_19 hl (k := 0) rfl rfl (by decide) rfl (fun ls hl => ?_)
                        refine lv_goto (tgt := 2) hx hb dX0_monthOfPlace_22 (by decide) ?_
                        refine lv_iload_n hx hb dX0_monthOfPlace_2 rfl (lv_at hl 0 rfl) ?_
                        refine lv_bipush (v := iZ 12) hx hb dX0_monthOfPlace_3 rfl ?_
                        refine kz_icmp_ge (tgt := 25) hx hb (by first | omega | exact ahead_rngI b (by omega)) (by first | omega | exact ahead_rngI b (by omega)) dX0_monthOfPlace_5 (by decide) (fun c_23 => ?_) (fun c_23 => absurd c_23 (by omega))
                        refine lv_iload_n hx hb dX0_monthOfPlace_25 rfl (lv_at hl 0 rfl) ?_
                        exact W.iret (v := iZ 12) hx hb hr (fun t ht hW => ⟨congrArg (fun z : Int => Outcome.returned (some (Value.int (iZ z)))) (show 12 = (mop b pl) from by have q2 := ahead_rng b (m := 2) (by omega); unfold mop; simp [*]), ht⟩) (fun q h => by cases h) dX0_monthOfPlace_26

theorem usize_rng (u : Int) : 1 ≤ usize u ∧ usize u ≤ 12000 := by unfold usize; (repeat' split) <;> omega
theorem kz_look2 {x a b d : Int} (h0 : x ≠ 0) (h1 : x ≠ 1) : Op.lookupswitch.offset (#[((0 : Int), a), (1, b)] : Array (Int × Int)).toList d x = d := by
  show (if (0 : Int) = x then a else if (1 : Int) = x then b else d) = d
  rw [if_neg (fun h => h0 h.symm), if_neg (fun h => h1 h.symm)]
def ywt (y t v : Int) : Int := if t = 0 then v else if t = 1 then ranked v (side y) else ranked (rank y) v
theorem side_rng (y : Int) : side y = 0 ∨ side y = 1 := by unfold side; split <;> omega
theorem rank_rng {y : Int} (h : -1000000000 ≤ y ∧ y ≤ 1000000000) : 1 ≤ rank y ∧ rank y ≤ 1000000001 := by unfold rank; split <;> omega
theorem leap_mul (y : Int) : True := trivial
abbrev ww_X0_placeOf : List Cond := .code yX0_placeOf cX0_placeOf 3 (some .int) :: gT
set_option maxHeartbeats 4000000 in
set_option maxRecDepth 100000 in
/-- X0_placeOf -/
theorem c_X0_placeOf (l : Launch) (H0 : Heap) (cn : Int) (dd : Int) (hc : -12000000000 ≤ cn ∧ cn ≤ 12000000000) (hd : 0 ≤ dd ∧ dd ≤ 400) : Met l yX0_placeOf ww_X0_placeOf ({ frames := 2, cells := 0, slots := 0, locals := 46 }) (va_Pc [.long (lZ (cn)), .int (iZ dd)] (fun U => U.heap = H0)) (kQ0 (some (.int (iZ (ahead (leap (yearOf cn)) (monOf cn) + dd)))) H0) 0 0 kN := by
  refine Met.ofW (cc := cX0_placeOf) (maxL := 3) (ret := (some .int)) (by decide) rfl ?_
  intro p e s m args below meth c s₁ B hml hv
  obtain ⟨rfl, hH⟩ := hv
  subst hH
  have hx := B.exec
  have hb := B.bytes
  have hr := B.returns
  have hts := atoms_spec (ws := ww_X0_placeOf) B.pre
  have hown : s.vm.findClass RX0 = some m.cls := findClass_of_methodNamed B.named
  have hlocks := B.notSynchronized
  have hl := lv_entry ([.long (lZ (cn)), .int (iZ dd)]) (n := 3) (Nat.le_of_ble_eq_true rfl)
  rw [lg_entry_eq]
  generalize (lg_sl ([.long (lZ (cn)), .int (iZ dd)]) ++ List.replicate (3 - (lg_sl ([.long (lZ (cn)), .int (iZ dd)])).length) Slot.unset).toArray = ls at hl ⊢
  have hl : lv_has ls 3 [(0, .long (lZ (cn))), (2, .int (iZ dd))] := hl
  refine lv_lload_n hx hb dX0_placeOf_0 rfl (lv_at hl 0 rfl) ?_
  refine kc0 (fun _ q => q) (va_runS (As := [.long (lZ (cn))]) (rest := []) ⟨hx, hb, hml, hown, hts⟩ (c_X0_monthOf l _ (cn) (by have := monOf_rng cn; have := yearOf_rng hc; have := ahead_rng (leap (yearOf cn)) (m := monOf cn) (by omega); omega)) (va_cwS 1 hts (kg_S mw135 mw136 mw51 rfl mw137) rfl rfl rfl hdS_X0_monthOf ⟨Nat.le_of_ble_eq_true rfl, Nat.le_of_ble_eq_true rfl⟩) ⟨fun a U g mk q => q, fun U hU hW => ⟨rfl, hU⟩⟩ rfl rfl hl.1 rfl (lv_room (Nat.le_of_ble_eq_true rfl)) dX0_placeOf_1 ⟨Nat.le_of_ble_eq_true rfl, Nat.le_of_ble_eq_true rfl⟩) ?_
  refine lv_lload_n hx hb dX0_placeOf_4 rfl (lv_at hl 0 rfl) ?_
  refine kc0 (fun _ q => q) (va_runS (As := [.long (lZ (cn))]) (rest := [.int (iZ (monOf ((cn))))]) ⟨hx, hb, hml, hown, hts⟩ (c_X0_yearOfCount l _ (cn) (by have := monOf_rng cn; have := yearOf_rng hc; have := ahead_rng (leap (yearOf cn)) (m := monOf cn) (by omega); omega)) (va_cwS 1 hts (kg_S mw142 mw143 mw51 rfl mw144) rfl rfl rfl hdS_X0_yearOfCount ⟨Nat.le_of_ble_eq_true rfl, Nat.le_of_ble_eq_true rfl⟩) ⟨fun a U g mk q => q, fun U hU hW => ⟨rfl, hU⟩⟩ rfl rfl hl.1 rfl (lv_room (Nat.le_of_ble_eq_true rfl)) dX0_placeOf_5 ⟨Nat.le_of_ble_eq_true rfl, Nat.le_of_ble_eq_true rfl⟩) ?_
  refine kz_i2l hx hb (by have := monOf_rng cn; have := yearOf_rng hc; have := ahead_rng (leap (yearOf cn)) (m := monOf cn) (by omega); omega) dX0_placeOf_8 ?_
  refine kc0 (fun _ q => q) (va_runS (As := [.long (lZ ((yearOf ((cn)))))]) (rest := [.int (iZ (monOf ((cn))))]) ⟨hx, hb, hml, hown, hts⟩ (c_X0_isLeapNumber l _ (((yearOf ((cn))))) (by have := monOf_rng cn; have := yearOf_rng hc; have := ahead_rng (leap (yearOf cn)) (m := monOf cn) (by omega); omega)) (va_cwS 1 hts (kg_S mw148 mw110 mw51 rfl mw111) rfl rfl rfl hdS_X0_isLeapNumber ⟨Nat.le_of_ble_eq_true rfl, Nat.le_of_ble_eq_true rfl⟩) ⟨fun a U g mk q => q, fun U hU hW => ⟨rfl, hU⟩⟩ rfl rfl hl.1 rfl (lv_room (Nat.le_of_ble_eq_true rfl)) dX0_placeOf_9 ⟨Nat.le_of_ble_eq_true rfl, Nat.le_of_ble_eq_true rfl⟩) ?_
  refine kc0 (fun _ q => q) (va_runS (As := [.int (iZ (monOf ((cn)))), .int (iZ (bZ (leap ((((yearOf ((cn)))))))))]) (rest := []) ⟨hx, hb, hml, hown, hts⟩ (c_X0_daysAheadOf l _ ((monOf ((cn)))) (leap ((((yearOf ((cn))))))) (by have := monOf_rng cn; have := yearOf_rng hc; have := ahead_rng (leap (yearOf cn)) (m := monOf cn) (by omega); omega)) (va_cwS 2 hts (kg_S mw168 mw169 mw51 rfl mw170) rfl rfl rfl hdS_X0_daysAheadOf ⟨Nat.le_of_ble_eq_true rfl, Nat.le_of_ble_eq_true rfl⟩) ⟨fun a U g mk q => q, fun U hU hW => ⟨rfl, hU⟩⟩ rfl rfl hl.1 rfl (lv_room (Nat.le_of_ble_eq_true rfl)) dX0_placeOf_12 ⟨Nat.le_of_ble_eq_true rfl, Nat.le_of_ble_eq_true rfl⟩) ?_
  refine lv_iload_n hx hb dX0_placeOf_15 rfl (lv_at hl 1 rfl) ?_
  refine kz_iadd hx hb dX0_placeOf_16 ?_
  exact W.iret (v := iZ ((ahead ((leap ((((yearOf ((cn)))))))) (((monOf ((cn)))))) + dd)) hx hb hr (fun t ht hW => ⟨congrArg (fun z : Int => Outcome.returned (some (Value.int (iZ z)))) (show ((ahead ((leap ((((yearOf ((cn)))))))) (((monOf ((cn)))))) + dd) = (ahead (leap (yearOf cn)) (monOf cn) + dd) from by rfl), ht⟩) (fun q h => by cases h) dX0_placeOf_17

abbrev ww_X0_dayNumberOf : List Cond := .code yX0_dayNumberOf cX0_dayNumberOf 10 (some .long) :: gT
set_option maxHeartbeats 4000000 in
set_option maxRecDepth 100000 in
/-- X0_dayNumberOf -/
theorem c_X0_dayNumberOf (l : Launch) (H0 : Heap) (cn : Int) (dd : Int) (hc : -12000000000 ≤ cn ∧ cn ≤ 12000000000) (hd : -400 ≤ dd ∧ dd ≤ 400) : Met l yX0_dayNumberOf ww_X0_dayNumberOf ({ frames := 2, cells := 0, slots := 0, locals := 46 }) (va_Pc [.long (lZ (cn)), .int (iZ dd)] (fun U => U.heap = H0)) (kQ0 (some (.long (lZ (dnum (yearOf cn) (monOf cn) dd)))) H0) 0 0 kN := by
  refine Met.ofW (cc := cX0_dayNumberOf) (maxL := 10) (ret := (some .long)) (by decide) rfl ?_
  intro p e s m args below meth c s₁ B hml hv
  obtain ⟨rfl, hH⟩ := hv
  subst hH
  have hx := B.exec
  have hb := B.bytes
  have hr := B.returns
  have hts := atoms_spec (ws := ww_X0_dayNumberOf) B.pre
  have hown : s.vm.findClass RX0 = some m.cls := findClass_of_methodNamed B.named
  have hlocks := B.notSynchronized
  have hl := lv_entry ([.long (lZ (cn)), .int (iZ dd)]) (n := 10) (Nat.le_of_ble_eq_true rfl)
  rw [lg_entry_eq]
  generalize (lg_sl ([.long (lZ (cn)), .int (iZ dd)]) ++ List.replicate (10 - (lg_sl ([.long (lZ (cn)), .int (iZ dd)])).length) Slot.unset).toArray = ls at hl ⊢
  have hl : lv_has ls 10 [(0, .long (lZ (cn))), (2, .int (iZ dd))] := hl
  refine lv_lload_n hx hb dX0_dayNumberOf_0 rfl (lv_at hl 0 rfl) ?_
  refine kc0 (fun _ q => q) (va_runS (As := [.long (lZ (cn))]) (rest := []) ⟨hx, hb, hml, hown, hts⟩ (c_X0_yearOfCount l _ (cn) (by have := monOf_rng cn; have := yearOf_rng hc; have := ahead_rng (leap (yearOf cn)) (m := monOf cn) (by omega); omega)) (va_cwS 1 hts (kg_S mw142 mw143 mw51 rfl mw144) rfl rfl rfl hdS_X0_yearOfCount ⟨Nat.le_of_ble_eq_true rfl, Nat.le_of_ble_eq_true rfl⟩) ⟨fun a U g mk q => q, fun U hU hW => ⟨rfl, hU⟩⟩ rfl rfl hl.1 rfl (lv_room (Nat.le_of_ble_eq_true rfl)) dX0_dayNumberOf_1 ⟨Nat.le_of_ble_eq_true rfl, Nat.le_of_ble_eq_true rfl⟩) ?_
  refine kz_i2l hx hb (by have := monOf_rng cn; have := yearOf_rng hc; have := ahead_rng (leap (yearOf cn)) (m := monOf cn) (by omega); omega) dX0_dayNumberOf_4 ?_
  refine lv_lstore_n (lv' := [(3, .long (lZ ((yearOf ((cn)))))), (0, .long (lZ (cn))), (2, .int (iZ dd))]) hx hb dX0_dayNumberOf_5 rfl hl (by decide) rfl (fun ls hl => ?_)
  refine lv_lload_n hx hb dX0_dayNumberOf_6 rfl (lv_at hl 0 rfl) ?_
  refine lv_lconst (v := lZ 1) hx hb dX0_dayNumberOf_7 rfl ?_
  refine kz_lsub hx hb dX0_dayNumberOf_8 ?_
  refine lv_lstore (lv' := [(5, .long (lZ (((yearOf ((cn)))) - 1))), (3, .long (lZ ((yearOf ((cn)))))), (0, .long (lZ (cn))), (2, .int (iZ dd))]) hx hb dX0_dayNumberOf_9 hl (by decide) rfl (fun ls hl => ?_)
  refine lv_lload hx hb dX0_dayNumberOf_11 (lv_at hl 0 rfl) ?_
  refine lv_ldc2 (v := lZ 4) hx hb hown (hts _ (List.mem_cons_of_mem _ mw113)) dX0_dayNumberOf_13 ?_
  refine kc0 (fun _ q => q) (va_runS (As := [.long (lZ (((yearOf ((cn)))) - 1)), .long (lZ (4))]) (rest := []) ⟨hx, hb, hml, hown, hts⟩ (c_J9_floorDiv_f86c9 l _ ((((yearOf ((cn)))) - 1)) (4) (by have := monOf_rng cn; have := yearOf_rng hc; have := ahead_rng (leap (yearOf cn)) (m := monOf cn) (by omega); omega) (by have := monOf_rng cn; have := yearOf_rng hc; have := ahead_rng (leap (yearOf cn)) (m := monOf cn) (by omega); omega)) (va_cwS 2 hts (kg_S mw145 mw146 mw52 rfl mw147) rfl rfl rfl hdS_J9_floorDiv_f86c9 ⟨Nat.le_of_ble_eq_true rfl, Nat.le_of_ble_eq_true rfl⟩) ⟨fun a U g mk q => q, fun U hU hW => ⟨rfl, hU⟩⟩ rfl rfl hl.1 rfl (lv_room (Nat.le_of_ble_eq_true rfl)) dX0_dayNumberOf_16 ⟨Nat.le_of_ble_eq_true rfl, Nat.le_of_ble_eq_true rfl⟩) ?_
  refine lv_lload hx hb dX0_dayNumberOf_19 (lv_at hl 0 rfl) ?_
  refine lv_ldc2 (v := lZ 100) hx hb hown (hts _ (List.mem_cons_of_mem _ mw114)) dX0_dayNumberOf_21 ?_
  refine kc0 (fun _ q => q) (va_runS (As := [.long (lZ (((yearOf ((cn)))) - 1)), .long (lZ (100))]) (rest := [.long (lZ ((((((yearOf ((cn)))) - 1))) / ((4))))]) ⟨hx, hb, hml, hown, hts⟩ (c_J9_floorDiv_f86c9 l _ ((((yearOf ((cn)))) - 1)) (100) (by have := monOf_rng cn; have := yearOf_rng hc; have := ahead_rng (leap (yearOf cn)) (m := monOf cn) (by omega); omega) (by have := monOf_rng cn; have := yearOf_rng hc; have := ahead_rng (leap (yearOf cn)) (m := monOf cn) (by omega); omega)) (va_cwS 2 hts (kg_S mw145 mw146 mw52 rfl mw147) rfl rfl rfl hdS_J9_floorDiv_f86c9 ⟨Nat.le_of_ble_eq_true rfl, Nat.le_of_ble_eq_true rfl⟩) ⟨fun a U g mk q => q, fun U hU hW => ⟨rfl, hU⟩⟩ rfl rfl hl.1 rfl (lv_room (Nat.le_of_ble_eq_true rfl)) dX0_dayNumberOf_24 ⟨Nat.le_of_ble_eq_true rfl, Nat.le_of_ble_eq_true rfl⟩) ?_
  refine kz_lsub hx hb dX0_dayNumberOf_27 ?_
  refine lv_lload hx hb dX0_dayNumberOf_28 (lv_at hl 0 rfl) ?_
  refine lv_ldc2 (v := lZ 400) hx hb hown (hts _ (List.mem_cons_of_mem _ mw112)) dX0_dayNumberOf_30 ?_
  refine kc0 (fun _ q => q) (va_runS (As := [.long (lZ (((yearOf ((cn)))) - 1)), .long (lZ (400))]) (rest := [.long (lZ (((((((yearOf ((cn)))) - 1))) / ((4))) - ((((((yearOf ((cn)))) - 1))) / ((100)))))]) ⟨hx, hb, hml, hown, hts⟩ (c_J9_floorDiv_f86c9 l _ ((((yearOf ((cn)))) - 1)) (400) (by have := monOf_rng cn; have := yearOf_rng hc; have := ahead_rng (leap (yearOf cn)) (m := monOf cn) (by omega); omega) (by have := monOf_rng cn; have := yearOf_rng hc; have := ahead_rng (leap (yearOf cn)) (m := monOf cn) (by omega); omega)) (va_cwS 2 hts (kg_S mw145 mw146 mw52 rfl mw147) rfl rfl rfl hdS_J9_floorDiv_f86c9 ⟨Nat.le_of_ble_eq_true rfl, Nat.le_of_ble_eq_true rfl⟩) ⟨fun a U g mk q => q, fun U hU hW => ⟨rfl, hU⟩⟩ rfl rfl hl.1 rfl (lv_room (Nat.le_of_ble_eq_true rfl)) dX0_dayNumberOf_33 ⟨Nat.le_of_ble_eq_true rfl, Nat.le_of_ble_eq_true rfl⟩) ?_
  refine kz_ladd hx hb dX0_dayNumberOf_36 ?_
  refine lv_lconst (v := lZ 1) hx hb dX0_dayNumberOf_37 rfl ?_
  refine kz_ladd hx hb dX0_dayNumberOf_38 ?_
  refine lv_lstore (lv' := [(7, .long (lZ (((((((((yearOf ((cn)))) - 1))) / ((4))) - ((((((yearOf ((cn)))) - 1))) / ((100)))) + ((((((yearOf ((cn)))) - 1))) / ((400)))) + 1))), (5, .long (lZ (((yearOf ((cn)))) - 1))), (3, .long (lZ ((yearOf ((cn)))))), (0, .long (lZ (cn))), (2, .int (iZ dd))]) hx hb dX0_dayNumberOf_39 hl (by decide) rfl (fun ls hl => ?_)
  refine lv_lload_n hx hb dX0_dayNumberOf_41 rfl (lv_at hl 3 rfl) ?_
  refine kc0 (fun _ q => q) (va_runS (As := [.long (lZ (cn))]) (rest := []) ⟨hx, hb, hml, hown, hts⟩ (c_X0_monthOf l _ (cn) (by have := monOf_rng cn; have := yearOf_rng hc; have := ahead_rng (leap (yearOf cn)) (m := monOf cn) (by omega); omega)) (va_cwS 1 hts (kg_S mw135 mw136 mw51 rfl mw137) rfl rfl rfl hdS_X0_monthOf ⟨Nat.le_of_ble_eq_true rfl, Nat.le_of_ble_eq_true rfl⟩) ⟨fun a U g mk q => q, fun U hU hW => ⟨rfl, hU⟩⟩ rfl rfl hl.1 rfl (lv_room (Nat.le_of_ble_eq_true rfl)) dX0_dayNumberOf_42 ⟨Nat.le_of_ble_eq_true rfl, Nat.le_of_ble_eq_true rfl⟩) ?_
  refine lv_lload_n hx hb dX0_dayNumberOf_45 rfl (lv_at hl 2 rfl) ?_
  refine kc0 (fun _ q => q) (va_runS (As := [.long (lZ ((yearOf ((cn)))))]) (rest := [.int (iZ (monOf ((cn))))]) ⟨hx, hb, hml, hown, hts⟩ (c_X0_isLeapNumber l _ (((yearOf ((cn))))) (by have := monOf_rng cn; have := yearOf_rng hc; have := ahead_rng (leap (yearOf cn)) (m := monOf cn) (by omega); omega)) (va_cwS 1 hts (kg_S mw148 mw110 mw51 rfl mw111) rfl rfl rfl hdS_X0_isLeapNumber ⟨Nat.le_of_ble_eq_true rfl, Nat.le_of_ble_eq_true rfl⟩) ⟨fun a U g mk q => q, fun U hU hW => ⟨rfl, hU⟩⟩ rfl rfl hl.1 rfl (lv_room (Nat.le_of_ble_eq_true rfl)) dX0_dayNumberOf_46 ⟨Nat.le_of_ble_eq_true rfl, Nat.le_of_ble_eq_true rfl⟩) ?_
  refine kc0 (fun _ q => q) (va_runS (As := [.int (iZ (monOf ((cn)))), .int (iZ (bZ (leap ((((yearOf ((cn)))))))))]) (rest := []) ⟨hx, hb, hml, hown, hts⟩ (c_X0_daysAheadOf l _ ((monOf ((cn)))) (leap ((((yearOf ((cn))))))) (by have := monOf_rng cn; have := yearOf_rng hc; have := ahead_rng (leap (yearOf cn)) (m := monOf cn) (by omega); omega)) (va_cwS 2 hts (kg_S mw168 mw169 mw51 rfl mw170) rfl rfl rfl hdS_X0_daysAheadOf ⟨Nat.le_of_ble_eq_true rfl, Nat.le_of_ble_eq_true rfl⟩) ⟨fun a U g mk q => q, fun U hU hW => ⟨rfl, hU⟩⟩ rfl rfl hl.1 rfl (lv_room (Nat.le_of_ble_eq_true rfl)) dX0_dayNumberOf_49 ⟨Nat.le_of_ble_eq_true rfl, Nat.le_of_ble_eq_true rfl⟩) ?_
  refine lv_istore (lv' := [(9, .int (iZ (ahead ((leap ((((yearOf ((cn)))))))) (((monOf ((cn)))))))), (7, .long (lZ (((((((((yearOf ((cn)))) - 1))) / ((4))) - ((((((yearOf ((cn)))) - 1))) / ((100)))) + ((((((yearOf ((cn)))) - 1))) / ((400)))) + 1))), (5, .long (lZ (((yearOf ((cn)))) - 1))), (3, .long (lZ ((yearOf ((cn)))))), (0, .long (lZ (cn))), (2, .int (iZ dd))]) hx hb dX0_dayNumberOf_52 hl (by decide) rfl (fun ls hl => ?_)
  refine lv_ldc2 (v := lZ (-719528)) hx hb hown (hts _ (List.mem_cons_of_mem _ mw171)) dX0_dayNumberOf_54 ?_
  refine lv_ldc2 (v := lZ 365) hx hb hown (hts _ (List.mem_cons_of_mem _ mw172)) dX0_dayNumberOf_57 ?_
  refine lv_lload_n hx hb dX0_dayNumberOf_60 rfl (lv_at hl 3 rfl) ?_
  refine kz_lmul hx hb dX0_dayNumberOf_61 ?_
  refine kz_ladd hx hb dX0_dayNumberOf_62 ?_
  refine lv_lload hx hb dX0_dayNumberOf_63 (lv_at hl 1 rfl) ?_
  refine kz_ladd hx hb dX0_dayNumberOf_65 ?_
  refine lv_iload hx hb dX0_dayNumberOf_66 (lv_at hl 0 rfl) ?_
  refine kz_i2l hx hb (by have := monOf_rng cn; have := yearOf_rng hc; have := ahead_rng (leap (yearOf cn)) (m := monOf cn) (by omega); omega) dX0_dayNumberOf_68 ?_
  refine kz_ladd hx hb dX0_dayNumberOf_69 ?_
  refine lv_iload_n hx hb dX0_dayNumberOf_70 rfl (lv_at hl 5 rfl) ?_
  refine kz_i2l hx hb (by have := monOf_rng cn; have := yearOf_rng hc; have := ahead_rng (leap (yearOf cn)) (m := monOf cn) (by omega); omega) dX0_dayNumberOf_71 ?_
  refine kz_ladd hx hb dX0_dayNumberOf_72 ?_
  refine lv_lconst (v := lZ 1) hx hb dX0_dayNumberOf_73 rfl ?_
  refine kz_lsub hx hb dX0_dayNumberOf_74 ?_
  exact W.lret (v := lZ (((((((-719528)) + (365 * ((yearOf ((cn)))))) + (((((((((yearOf ((cn)))) - 1))) / ((4))) - ((((((yearOf ((cn)))) - 1))) / ((100)))) + ((((((yearOf ((cn)))) - 1))) / ((400)))) + 1)) + ((ahead ((leap ((((yearOf ((cn)))))))) (((monOf ((cn)))))))) + dd) - 1)) hx hb hr (fun t ht hW => ⟨congrArg (fun z : Int => Outcome.returned (some (Value.long (lZ z)))) (show (((((((-719528)) + (365 * ((yearOf ((cn)))))) + (((((((((yearOf ((cn)))) - 1))) / ((4))) - ((((((yearOf ((cn)))) - 1))) / ((100)))) + ((((((yearOf ((cn)))) - 1))) / ((400)))) + 1)) + ((ahead ((leap ((((yearOf ((cn)))))))) (((monOf ((cn)))))))) + dd) - 1) = (dnum (yearOf cn) (monOf cn) dd) from by unfold dnum; omega), ht⟩) (fun q h => by cases h) dX0_dayNumberOf_75

abbrev ww_X0_weekdayOf : List Cond := .code yX0_weekdayOf cX0_weekdayOf 2 (some .int) :: gT
set_option maxHeartbeats 4000000 in
set_option maxRecDepth 100000 in
/-- X0_weekdayOf -/
theorem c_X0_weekdayOf (l : Launch) (H0 : Heap) (nn : Int) (hn0 : -1000000000000000 ≤ nn ∧ nn ≤ 1000000000000000) : Met l yX0_weekdayOf ww_X0_weekdayOf ({ frames := 1, cells := 0, slots := 0, locals := 25 }) (va_Pc [.long (lZ (nn))] (fun U => U.heap = H0)) (kQ0 (some (.int (iZ (1 + (nn + 3) % 7)))) H0) 0 0 kN := by
  refine Met.ofW (cc := cX0_weekdayOf) (maxL := 2) (ret := (some .int)) (by decide) rfl ?_
  intro p e s m args below meth c s₁ B hml hv
  obtain ⟨rfl, hH⟩ := hv
  subst hH
  have hx := B.exec
  have hb := B.bytes
  have hr := B.returns
  have hts := atoms_spec (ws := ww_X0_weekdayOf) B.pre
  have hown : s.vm.findClass RX0 = some m.cls := findClass_of_methodNamed B.named
  have hlocks := B.notSynchronized
  have hl := lv_entry ([.long (lZ (nn))]) (n := 2) (Nat.le_of_ble_eq_true rfl)
  rw [lg_entry_eq]
  generalize (lg_sl ([.long (lZ (nn))]) ++ List.replicate (2 - (lg_sl ([.long (lZ (nn))])).length) Slot.unset).toArray = ls at hl ⊢
  have hl : lv_has ls 2 [(0, .long (lZ (nn)))] := hl
  refine lv_iconst (v := iZ 1) hx hb dX0_weekdayOf_0 rfl ?_
  refine lv_lload_n hx hb dX0_weekdayOf_1 rfl (lv_at hl 0 rfl) ?_
  refine lv_ldc2 (v := lZ 3) hx hb hown (hts _ (List.mem_cons_of_mem _ mw558)) dX0_weekdayOf_2 ?_
  refine kz_ladd hx hb dX0_weekdayOf_5 ?_
  refine lv_ldc2 (v := lZ 7) hx hb hown (hts _ (List.mem_cons_of_mem _ mw559)) dX0_weekdayOf_6 ?_
  refine kc0 (fun _ q => q) (va_runS (As := [.long (lZ (nn + 3)), .long (lZ (7))]) (rest := [.int (iZ 1)]) ⟨hx, hb, hml, hown, hts⟩ (c_J9_floorMod_f86c9 l _ ((nn + 3)) (7) (by omega) (by omega)) (va_cwS 2 hts (kg_S mw139 mw140 mw52 rfl mw141) rfl rfl rfl hdS_J9_floorMod_f86c9 ⟨Nat.le_of_ble_eq_true rfl, Nat.le_of_ble_eq_true rfl⟩) ⟨fun a U g mk q => q, fun U hU hW => ⟨rfl, hU⟩⟩ rfl rfl hl.1 rfl (lv_room (Nat.le_of_ble_eq_true rfl)) dX0_weekdayOf_9 ⟨Nat.le_of_ble_eq_true rfl, Nat.le_of_ble_eq_true rfl⟩) ?_
  refine kz_l2i hx hb dX0_weekdayOf_12 ?_
  refine kz_iadd hx hb dX0_weekdayOf_13 ?_
  exact W.iret (v := iZ (1 + ((((nn + 3))) % ((7))))) hx hb hr (fun t ht hW => ⟨congrArg (fun z : Int => Outcome.returned (some (Value.int (iZ z)))) (show (1 + ((((nn + 3))) % ((7)))) = (1 + (nn + 3) % 7) from by rfl), ht⟩) (fun q h => by cases h) dX0_weekdayOf_14

abbrev ww_X0_sizeOf : List Cond := .code yX0_sizeOf cX0_sizeOf 1 (some .long) :: gT
set_option maxHeartbeats 4000000 in
set_option maxRecDepth 100000 in
/-- X0_sizeOf -/
theorem c_X0_sizeOf (l : Launch) (H0 : Heap) (u : Int) (hu : -2147483648 ≤ u ∧ u < 2147483648) : Met l yX0_sizeOf ww_X0_sizeOf ({ frames := 0, cells := 0, slots := 0, locals := 0 }) (va_Pc [.int (iZ u)] (fun U => U.heap = H0)) (kQ0 (some (.long (lZ (usize u)))) H0) 0 0 kN := by
  refine Met.ofW (cc := cX0_sizeOf) (maxL := 1) (ret := (some .long)) (by decide) rfl ?_
  intro p e s m args below meth c s₁ B hml hv
  obtain ⟨rfl, hH⟩ := hv
  subst hH
  have hx := B.exec
  have hb := B.bytes
  have hr := B.returns
  have hts := atoms_spec (ws := ww_X0_sizeOf) B.pre
  have hown : s.vm.findClass RX0 = some m.cls := findClass_of_methodNamed B.named
  have hlocks := B.notSynchronized
  have hl := lv_entry ([.int (iZ u)]) (n := 1) (Nat.le_of_ble_eq_true rfl)
  rw [lg_entry_eq]
  generalize (lg_sl ([.int (iZ u)]) ++ List.replicate (1 - (lg_sl ([.int (iZ u)])).length) Slot.unset).toArray = ls at hl ⊢
  have hl : lv_has ls 1 [(0, .int (iZ u))] := hl
  refine lv_iload_n hx hb dX0_sizeOf_0 rfl (lv_at hl 0 rfl) ?_
  by_cases c_1 : u = 0
  · refine lv_tableIn (tgt := 32) (off := 31) hx hb dX0_sizeOf_1 (by rw [iZ_toInt (z := u) (by omega)]; omega) (by rw [iZ_toInt (z := u) (by omega)]; omega) (by rw [iZ_toInt (z := u) (by omega), show u = 0 from by omega]; rfl) (by decide) ?_
    refine lv_lconst (v := lZ 1) hx hb dX0_sizeOf_32 rfl ?_
    exact W.lret (v := lZ 1) hx hb hr (fun t ht hW => ⟨congrArg (fun z : Int => Outcome.returned (some (Value.long (lZ z)))) (show 1 = (usize u) from by unfold usize; simp [*]), ht⟩) (fun q h => by cases h) dX0_sizeOf_33
  by_cases c_2 : u = 1
  · refine lv_tableIn (tgt := 34) (off := 33) hx hb dX0_sizeOf_1 (by rw [iZ_toInt (z := u) (by omega)]; omega) (by rw [iZ_toInt (z := u) (by omega)]; omega) (by rw [iZ_toInt (z := u) (by omega), show u = 1 from by omega]; rfl) (by decide) ?_
    refine lv_ldc2 (v := lZ 12) hx hb hown (hts _ (List.mem_cons_of_mem _ mw138)) dX0_sizeOf_34 ?_
    exact W.lret (v := lZ 12) hx hb hr (fun t ht hW => ⟨congrArg (fun z : Int => Outcome.returned (some (Value.long (lZ z)))) (show 12 = (usize u) from by unfold usize; simp [*]), ht⟩) (fun q h => by cases h) dX0_sizeOf_37
  by_cases c_3 : u = 2
  · refine lv_tableIn (tgt := 38) (off := 37) hx hb dX0_sizeOf_1 (by rw [iZ_toInt (z := u) (by omega)]; omega) (by rw [iZ_toInt (z := u) (by omega)]; omega) (by rw [iZ_toInt (z := u) (by omega), show u = 2 from by omega]; rfl) (by decide) ?_
    refine lv_ldc2 (v := lZ 120) hx hb hown (hts _ (List.mem_cons_of_mem _ mw582)) dX0_sizeOf_38 ?_
    exact W.lret (v := lZ 120) hx hb hr (fun t ht hW => ⟨congrArg (fun z : Int => Outcome.returned (some (Value.long (lZ z)))) (show 120 = (usize u) from by unfold usize; simp [*]), ht⟩) (fun q h => by cases h) dX0_sizeOf_41
  by_cases c_4 : u = 3
  · refine lv_tableIn (tgt := 42) (off := 41) hx hb dX0_sizeOf_1 (by rw [iZ_toInt (z := u) (by omega)]; omega) (by rw [iZ_toInt (z := u) (by omega)]; omega) (by rw [iZ_toInt (z := u) (by omega), show u = 3 from by omega]; rfl) (by decide) ?_
    refine lv_ldc2 (v := lZ 1200) hx hb hown (hts _ (List.mem_cons_of_mem _ mw583)) dX0_sizeOf_42 ?_
    exact W.lret (v := lZ 1200) hx hb hr (fun t ht hW => ⟨congrArg (fun z : Int => Outcome.returned (some (Value.long (lZ z)))) (show 1200 = (usize u) from by unfold usize; simp [*]), ht⟩) (fun q h => by cases h) dX0_sizeOf_45
  refine lv_tableOut (tgt := 46) hx hb dX0_sizeOf_1 (by rw [iZ_toInt (z := u) (by omega)]; omega) (by decide) ?_
  refine lv_ldc2 (v := lZ 12000) hx hb hown (hts _ (List.mem_cons_of_mem _ mw584)) dX0_sizeOf_46 ?_
  exact W.lret (v := lZ 12000) hx hb hr (fun t ht hW => ⟨congrArg (fun z : Int => Outcome.returned (some (Value.long (lZ z)))) (show 12000 = (usize u) from by unfold usize; simp [*]), ht⟩) (fun q h => by cases h) dX0_sizeOf_49

abbrev ww_X0_monthsInUnits : List Cond := .code yX0_monthsInUnits cX0_monthsInUnits 2 (some .long) :: gT
set_option maxHeartbeats 4000000 in
set_option maxRecDepth 100000 in
/-- X0_monthsInUnits -/
theorem c_X0_monthsInUnits (l : Launch) (H0 : Heap) (many : Int) (u : Int) (hm : -2147483648 ≤ many ∧ many < 2147483648) (hu : -2147483648 ≤ u ∧ u < 2147483648) : Met l yX0_monthsInUnits ww_X0_monthsInUnits ({ frames := 1, cells := 0, slots := 0, locals := 20 }) (va_Pc [.int (iZ many), .int (iZ u)] (fun U => U.heap = H0)) (kQ0 (some (.long (lZ (many * usize u)))) H0) 0 0 kN := by
  refine Met.ofW (cc := cX0_monthsInUnits) (maxL := 2) (ret := (some .long)) (by decide) rfl ?_
  intro p e s m args below meth c s₁ B hml hv
  obtain ⟨rfl, hH⟩ := hv
  subst hH
  have hx := B.exec
  have hb := B.bytes
  have hr := B.returns
  have hts := atoms_spec (ws := ww_X0_monthsInUnits) B.pre
  have hown : s.vm.findClass RX0 = some m.cls := findClass_of_methodNamed B.named
  have hlocks := B.notSynchronized
  have hl := lv_entry ([.int (iZ many), .int (iZ u)]) (n := 2) (Nat.le_of_ble_eq_true rfl)
  rw [lg_entry_eq]
  generalize (lg_sl ([.int (iZ many), .int (iZ u)]) ++ List.replicate (2 - (lg_sl ([.int (iZ many), .int (iZ u)])).length) Slot.unset).toArray = ls at hl ⊢
  have hl : lv_has ls 2 [(0, .int (iZ many)), (1, .int (iZ u))] := hl
  refine lv_iload_n hx hb dX0_monthsInUnits_0 rfl (lv_at hl 0 rfl) ?_
  refine kz_i2l hx hb (by omega) dX0_monthsInUnits_1 ?_
  refine lv_iload_n hx hb dX0_monthsInUnits_2 rfl (lv_at hl 1 rfl) ?_
  refine kc0 (fun _ q => q) (va_runS (As := [.int (iZ u)]) (rest := [.long (lZ (many))]) ⟨hx, hb, hml, hown, hts⟩ (c_X0_sizeOf l _ (u) (by omega)) (va_cwS 1 hts (kg_S mw579 mw580 mw51 rfl mw581) rfl rfl rfl hdS_X0_sizeOf ⟨Nat.le_of_ble_eq_true rfl, Nat.le_of_ble_eq_true rfl⟩) ⟨fun a U g mk q => q, fun U hU hW => ⟨rfl, hU⟩⟩ rfl rfl hl.1 rfl (lv_room (Nat.le_of_ble_eq_true rfl)) dX0_monthsInUnits_3 ⟨Nat.le_of_ble_eq_true rfl, Nat.le_of_ble_eq_true rfl⟩) ?_
  refine kz_lmul hx hb dX0_monthsInUnits_6 ?_
  exact W.lret (v := lZ (many * (usize ((u))))) hx hb hr (fun t ht hW => ⟨congrArg (fun z : Int => Outcome.returned (some (Value.long (lZ z)))) (show (many * (usize ((u)))) = (many * usize u) from by rfl), ht⟩) (fun q h => by cases h) dX0_monthsInUnits_7

abbrev ww_X0_unitsInMonths : List Cond := .code yX0_unitsInMonths cX0_unitsInMonths 5 (some .long) :: gT
set_option maxHeartbeats 4000000 in
set_option maxRecDepth 100000 in
/-- X0_unitsInMonths -/
theorem c_X0_unitsInMonths (l : Launch) (H0 : Heap) (mm : Int) (u : Int) (hm : -9223372036854775808 ≤ mm ∧ mm < 9223372036854775808) (hu : -2147483648 ≤ u ∧ u < 2147483648) : Met l yX0_unitsInMonths ww_X0_unitsInMonths ({ frames := 1, cells := 0, slots := 0, locals := 20 }) (va_Pc [.long (lZ (mm)), .int (iZ u)] (fun U => U.heap = H0)) (kQ0 (some (.long (lZ (tq mm (usize u))))) H0) 0 0 kN := by
  refine Met.ofW (cc := cX0_unitsInMonths) (maxL := 5) (ret := (some .long)) (by decide) rfl ?_
  intro p e s m args below meth c s₁ B hml hv
  obtain ⟨rfl, hH⟩ := hv
  subst hH
  have hx := B.exec
  have hb := B.bytes
  have hr := B.returns
  have hts := atoms_spec (ws := ww_X0_unitsInMonths) B.pre
  have hown : s.vm.findClass RX0 = some m.cls := findClass_of_methodNamed B.named
  have hlocks := B.notSynchronized
  have hl := lv_entry ([.long (lZ (mm)), .int (iZ u)]) (n := 5) (Nat.le_of_ble_eq_true rfl)
  rw [lg_entry_eq]
  generalize (lg_sl ([.long (lZ (mm)), .int (iZ u)]) ++ List.replicate (5 - (lg_sl ([.long (lZ (mm)), .int (iZ u)])).length) Slot.unset).toArray = ls at hl ⊢
  have hl : lv_has ls 5 [(0, .long (lZ (mm))), (2, .int (iZ u))] := hl
  refine lv_iload_n hx hb dX0_unitsInMonths_0 rfl (lv_at hl 1 rfl) ?_
  refine kc0 (fun _ q => q) (va_runS (As := [.int (iZ u)]) (rest := []) ⟨hx, hb, hml, hown, hts⟩ (c_X0_sizeOf l _ (u) (by omega)) (va_cwS 1 hts (kg_S mw579 mw580 mw51 rfl mw581) rfl rfl rfl hdS_X0_sizeOf ⟨Nat.le_of_ble_eq_true rfl, Nat.le_of_ble_eq_true rfl⟩) ⟨fun a U g mk q => q, fun U hU hW => ⟨rfl, hU⟩⟩ rfl rfl hl.1 rfl (lv_room (Nat.le_of_ble_eq_true rfl)) dX0_unitsInMonths_1 ⟨Nat.le_of_ble_eq_true rfl, Nat.le_of_ble_eq_true rfl⟩) ?_
  refine lv_lstore_n (lv' := [(3, .long (lZ (usize ((u))))), (0, .long (lZ (mm))), (2, .int (iZ u))]) hx hb dX0_unitsInMonths_4 rfl hl (by decide) rfl (fun ls hl => ?_)
  refine lv_lload_n hx hb dX0_unitsInMonths_5 rfl (lv_at hl 0 rfl) ?_
  refine lv_lconst (v := lZ 1) hx hb dX0_unitsInMonths_6 rfl ?_
  refine kz_lcmp_ge (tgt := 15) hx hb (by have := usize_rng u; omega) (by have := usize_rng u; omega) dX0_unitsInMonths_7 dX0_unitsInMonths_8 (by decide) (fun c_1 => ?_) (fun c_1 => absurd c_1 (by have := usize_rng u; omega))
  refine lv_lload_n hx hb dX0_unitsInMonths_15 rfl (lv_at hl 1 rfl) ?_
  refine lv_lload_n hx hb dX0_unitsInMonths_16 rfl (lv_at hl 0 rfl) ?_
  refine kz_ldiv hx hb (by have := usize_rng u; omega) (by have := usize_rng u; omega) dX0_unitsInMonths_17 ?_
  exact W.lret (v := lZ (tq mm (usize ((u))))) hx hb hr (fun t ht hW => ⟨congrArg (fun z : Int => Outcome.returned (some (Value.long (lZ z)))) (show (tq mm (usize ((u)))) = (tq mm (usize u)) from by rfl), ht⟩) (fun q h => by cases h) dX0_unitsInMonths_18

abbrev ww_X0_yearWithThing : List Cond := .code yX0_yearWithThing cX0_yearWithThing 3 (some .int) :: gT
set_option maxHeartbeats 4000000 in
set_option maxRecDepth 100000 in
/-- X0_yearWithThing -/
theorem c_X0_yearWithThing (l : Launch) (H0 : Heap) (y : Int) (th : Int) (v : Int) (hy : -1000000000 ≤ y ∧ y ≤ 1000000000) (ht0 : -2147483648 ≤ th ∧ th < 2147483648) (hv0 : -2147483648 ≤ v ∧ v < 2147483648) : Met l yX0_yearWithThing ww_X0_yearWithThing ({ frames := 1, cells := 0, slots := 0, locals := 21 }) (va_Pc [.int (iZ y), .int (iZ th), .int (iZ v)] (fun U => U.heap = H0)) (kQ0 (some (.int (iZ (ywt y th v)))) H0) 0 0 kN := by
  refine Met.ofW (cc := cX0_yearWithThing) (maxL := 3) (ret := (some .int)) (by decide) rfl ?_
  intro p e s m args below meth c s₁ B hml hv
  obtain ⟨rfl, hH⟩ := hv
  subst hH
  have hx := B.exec
  have hb := B.bytes
  have hr := B.returns
  have hts := atoms_spec (ws := ww_X0_yearWithThing) B.pre
  have hown : s.vm.findClass RX0 = some m.cls := findClass_of_methodNamed B.named
  have hlocks := B.notSynchronized
  have hl := lv_entry ([.int (iZ y), .int (iZ th), .int (iZ v)]) (n := 3) (Nat.le_of_ble_eq_true rfl)
  rw [lg_entry_eq]
  generalize (lg_sl ([.int (iZ y), .int (iZ th), .int (iZ v)]) ++ List.replicate (3 - (lg_sl ([.int (iZ y), .int (iZ th), .int (iZ v)])).length) Slot.unset).toArray = ls at hl ⊢
  have hl : lv_has ls 3 [(0, .int (iZ y)), (1, .int (iZ th)), (2, .int (iZ v))] := hl
  refine lv_iload_n hx hb dX0_yearWithThing_0 rfl (lv_at hl 1 rfl) ?_
  by_cases c_1 : th = 0
  · refine lv_lookup (tgt := 28) (off := 27) hx hb dX0_yearWithThing_1 (by decide) (by rw [iZ_toInt (z := th) (by have := side_rng y; have := rank_rng hy; omega), show th = 0 from by omega]; rfl) (by decide) ?_
    refine lv_iload_n hx hb dX0_yearWithThing_28 rfl (lv_at hl 2 rfl) ?_
    exact W.iret (v := iZ v) hx hb hr (fun t ht hW => ⟨congrArg (fun z : Int => Outcome.returned (some (Value.int (iZ z)))) (show v = (ywt y th v) from by unfold ywt; simp [*]), ht⟩) (fun q h => by cases h) dX0_yearWithThing_29
  by_cases c_2 : th = 1
  · refine lv_lookup (tgt := 30) (off := 29) hx hb dX0_yearWithThing_1 (by decide) (by rw [iZ_toInt (z := th) (by have := side_rng y; have := rank_rng hy; omega), show th = 1 from by omega]; rfl) (by decide) ?_
    refine lv_iload_n hx hb dX0_yearWithThing_30 rfl (lv_at hl 2 rfl) ?_
    refine lv_iload_n hx hb dX0_yearWithThing_31 rfl (lv_at hl 0 rfl) ?_
    refine kc0 (fun _ q => q) (va_runS (As := [.int (iZ y)]) (rest := [.int (iZ v)]) ⟨hx, hb, hml, hown, hts⟩ (c_X0_sideOf l _ (y) (by have := side_rng y; have := rank_rng hy; omega)) (va_cwS 1 hts (kg_S mw696 mw236 mw51 rfl mw237) rfl rfl rfl hdS_X0_sideOf ⟨Nat.le_of_ble_eq_true rfl, Nat.le_of_ble_eq_true rfl⟩) ⟨fun a U g mk q => q, fun U hU hW => ⟨rfl, hU⟩⟩ rfl rfl hl.1 rfl (lv_room (Nat.le_of_ble_eq_true rfl)) dX0_yearWithThing_32 ⟨Nat.le_of_ble_eq_true rfl, Nat.le_of_ble_eq_true rfl⟩) ?_
    refine kc0 (fun _ q => q) (va_runS (As := [.int (iZ v), .int (iZ (side ((y))))]) (rest := []) ⟨hx, hb, hml, hown, hts⟩ (c_X0_yearOfRank l _ (v) ((side ((y)))) (by have := side_rng y; have := rank_rng hy; omega) (by have := side_rng y; have := rank_rng hy; omega)) (va_cwS 2 hts (kg_S mw697 mw698 mw51 rfl mw699) rfl rfl rfl hdS_X0_yearOfRank ⟨Nat.le_of_ble_eq_true rfl, Nat.le_of_ble_eq_true rfl⟩) ⟨fun a U g mk q => q, fun U hU hW => ⟨rfl, hU⟩⟩ rfl rfl hl.1 rfl (lv_room (Nat.le_of_ble_eq_true rfl)) dX0_yearWithThing_35 ⟨Nat.le_of_ble_eq_true rfl, Nat.le_of_ble_eq_true rfl⟩) ?_
    exact W.iret (v := iZ (ranked ((v)) (((side ((y))))))) hx hb hr (fun t ht hW => ⟨congrArg (fun z : Int => Outcome.returned (some (Value.int (iZ z)))) (show (ranked ((v)) (((side ((y)))))) = (ywt y th v) from by unfold ywt; simp [*]), ht⟩) (fun q h => by cases h) dX0_yearWithThing_38
  refine lv_lookup (tgt := 39) (off := 38) hx hb dX0_yearWithThing_1 (by decide) (by rw [iZ_toInt (z := th) (by have := side_rng y; have := rank_rng hy; omega)]; exact kz_look2 (by omega) (by omega)) (by decide) ?_
  refine lv_iload_n hx hb dX0_yearWithThing_39 rfl (lv_at hl 0 rfl) ?_
  refine kc0 (fun _ q => q) (va_runS (As := [.int (iZ y)]) (rest := []) ⟨hx, hb, hml, hown, hts⟩ (c_X0_rankOf l _ (y) (by have := side_rng y; have := rank_rng hy; omega)) (va_cwS 1 hts (kg_S mw700 mw233 mw51 rfl mw234) rfl rfl rfl hdS_X0_rankOf ⟨Nat.le_of_ble_eq_true rfl, Nat.le_of_ble_eq_true rfl⟩) ⟨fun a U g mk q => q, fun U hU hW => ⟨rfl, hU⟩⟩ rfl rfl hl.1 rfl (lv_room (Nat.le_of_ble_eq_true rfl)) dX0_yearWithThing_40 ⟨Nat.le_of_ble_eq_true rfl, Nat.le_of_ble_eq_true rfl⟩) ?_
  refine lv_iload_n hx hb dX0_yearWithThing_43 rfl (lv_at hl 2 rfl) ?_
  refine kc0 (fun _ q => q) (va_runS (As := [.int (iZ (rank ((y)))), .int (iZ v)]) (rest := []) ⟨hx, hb, hml, hown, hts⟩ (c_X0_yearOfRank l _ ((rank ((y)))) (v) (by have := side_rng y; have := rank_rng hy; omega) (by have := side_rng y; have := rank_rng hy; omega)) (va_cwS 2 hts (kg_S mw697 mw698 mw51 rfl mw699) rfl rfl rfl hdS_X0_yearOfRank ⟨Nat.le_of_ble_eq_true rfl, Nat.le_of_ble_eq_true rfl⟩) ⟨fun a U g mk q => q, fun U hU hW => ⟨rfl, hU⟩⟩ rfl rfl hl.1 rfl (lv_room (Nat.le_of_ble_eq_true rfl)) dX0_yearWithThing_44 ⟨Nat.le_of_ble_eq_true rfl, Nat.le_of_ble_eq_true rfl⟩) ?_
  exact W.iret (v := iZ (ranked (((rank ((y))))) ((v)))) hx hb hr (fun t ht hW => ⟨congrArg (fun z : Int => Outcome.returned (some (Value.int (iZ z)))) (show (ranked (((rank ((y))))) ((v))) = (ywt y th v) from by unfold ywt; simp [*]), ht⟩) (fun q h => by cases h) dX0_yearWithThing_47

