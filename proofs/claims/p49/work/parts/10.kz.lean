/-! numbers as Int: iZ, lZ; instruction rows over them; call rules -/
def iZ (z : Int) : Int32 := Int32.ofInt z
def lZ (z : Int) : Int64 := Int64.ofInt z
def bZ (b : Bool) : Int := if b then 1 else 0
/-- Java's division by a positive number -/
def tq (x y : Int) : Int := if 0 ≤ x then x / y else -((-x) / y)
theorem iZ_add (a b : Int) : iZ a + iZ b = iZ (a + b) := (Int32.ofInt_add a b).symm
theorem iZ_mul (a b : Int) : iZ a * iZ b = iZ (a * b) := (Int32.ofInt_mul a b).symm
theorem iZ_neg (a : Int) : -iZ a = iZ (-a) := (Int32.ofInt_neg a).symm
theorem iZ_sub (a b : Int) : iZ a - iZ b = iZ (a - b) := by rw [Int32.sub_eq_add_neg, iZ_neg, iZ_add, Int.sub_eq_add_neg]
theorem lZ_add (a b : Int) : lZ a + lZ b = lZ (a + b) := (Int64.ofInt_add a b).symm
theorem lZ_mul (a b : Int) : lZ a * lZ b = lZ (a * b) := (Int64.ofInt_mul a b).symm
theorem lZ_neg (a : Int) : -lZ a = lZ (-a) := (Int64.ofInt_neg a).symm
theorem lZ_sub (a b : Int) : lZ a - lZ b = lZ (a - b) := by rw [Int64.sub_eq_add_neg, lZ_neg, lZ_add, Int.sub_eq_add_neg]
def inI (z : Int) : Prop := -2147483648 ≤ z ∧ z < 2147483648
def inL (z : Int) : Prop := -9223372036854775808 ≤ z ∧ z < 9223372036854775808
theorem iZ_toInt {z : Int} (h : -2147483648 ≤ z ∧ z < 2147483648) : (iZ z).toInt = z := Int32.toInt_ofInt_of_le h.1 h.2
theorem lZ_toInt {z : Int} (h : -9223372036854775808 ≤ z ∧ z < 9223372036854775808) : (lZ z).toInt = z := Int64.toInt_ofInt_of_le h.1 h.2
theorem iZ_of (x : Int32) : ∃ z : Int, (-2147483648 ≤ z ∧ z < 2147483648) ∧ x = iZ z := ⟨x.toInt, ⟨x.le_toInt, x.toInt_lt⟩, (Int32.ofInt_toInt x).symm⟩
theorem lZ_of (x : Int64) : ∃ z : Int, (-9223372036854775808 ≤ z ∧ z < 9223372036854775808) ∧ x = lZ z := ⟨x.toInt, ⟨x.le_toInt, x.toInt_lt⟩, (Int64.ofInt_toInt x).symm⟩
theorem iZ_l {z : Int} (h : -2147483648 ≤ z ∧ z < 2147483648) : (iZ z).toInt64 = lZ z := by
  rw [← Int64.toInt_inj, Int32.toInt_toInt64, iZ_toInt h, lZ_toInt (by omega)]
theorem lZ_i (z : Int) : (lZ z).toInt32 = iZ z := by
  rw [← Int32.toInt_inj, Int64.toInt_toInt32]
  show (Int64.ofInt z).toInt.bmod (2 ^ 32) = (Int32.ofInt z).toInt
  rw [Int64.toInt_ofInt, Int32.toInt_ofInt]
  show (z.bmod 18446744073709551616).bmod 4294967296 = z.bmod 4294967296
  rw [Int.bmod_bmod_of_dvd (by decide)]
theorem iZ_lt {a b : Int} (ha : -2147483648 ≤ a ∧ a < 2147483648) (hb : -2147483648 ≤ b ∧ b < 2147483648) : iZ a < iZ b ↔ a < b := by rw [Int32.lt_iff_toInt_lt, iZ_toInt ha, iZ_toInt hb]
theorem iZ_le {a b : Int} (ha : -2147483648 ≤ a ∧ a < 2147483648) (hb : -2147483648 ≤ b ∧ b < 2147483648) : iZ a ≤ iZ b ↔ a ≤ b := by rw [Int32.le_iff_toInt_le, iZ_toInt ha, iZ_toInt hb]
theorem iZ_eq {a b : Int} (ha : -2147483648 ≤ a ∧ a < 2147483648) (hb : -2147483648 ≤ b ∧ b < 2147483648) : iZ a = iZ b ↔ a = b := by rw [← Int32.toInt_inj, iZ_toInt ha, iZ_toInt hb]
theorem lZ_lt {a b : Int} (ha : -9223372036854775808 ≤ a ∧ a < 9223372036854775808) (hb : -9223372036854775808 ≤ b ∧ b < 9223372036854775808) : lZ a < lZ b ↔ a < b := by rw [Int64.lt_iff_toInt_lt, lZ_toInt ha, lZ_toInt hb]
theorem lZ_eq {a b : Int} (ha : -9223372036854775808 ≤ a ∧ a < 9223372036854775808) (hb : -9223372036854775808 ≤ b ∧ b < 9223372036854775808) : lZ a = lZ b ↔ a = b := by rw [← Int64.toInt_inj, lZ_toInt ha, lZ_toInt hb]
theorem tq_tdiv {x y : Int} : x.tdiv y = tq x y := by
  unfold tq
  split
  · rename_i h
    exact Int.tdiv_eq_ediv_of_nonneg h
  · rename_i h
    have h2 : (0 : Int) ≤ -x := by omega
    rw [← Int.tdiv_eq_ediv_of_nonneg h2, Int.neg_tdiv, Int.neg_neg]
theorem iZ_div {a b : Int} (ha : -2147483648 ≤ a ∧ a < 2147483648) (hb : 0 < b ∧ b < 2147483648) : iZ a / iZ b = iZ (tq a b) := by
  have h : ¬ ((iZ a).toInt = -2 ^ 31 ∧ (iZ b).toInt = -1) := fun q => by rw [iZ_toInt (z := b) ⟨by omega, by omega⟩] at q; omega
  have h1 : (iZ a / iZ b).toInt = tq a b := by rw [Kit.i32_div h, iZ_toInt ha, iZ_toInt ⟨by omega, by omega⟩, tq_tdiv]
  rw [← Int32.ofInt_toInt (iZ a / iZ b), h1]; rfl
theorem lZ_div {a b : Int} (ha : -9223372036854775808 ≤ a ∧ a < 9223372036854775808) (hb : 0 < b ∧ b < 9223372036854775808) : lZ a / lZ b = lZ (tq a b) := by
  have h : ¬ ((lZ a).toInt = -2 ^ 63 ∧ (lZ b).toInt = -1) := fun q => by rw [lZ_toInt (z := b) ⟨by omega, by omega⟩] at q; omega
  have h1 : (lZ a / lZ b).toInt = tq a b := by rw [Kit.i64_div h, lZ_toInt ha, lZ_toInt ⟨by omega, by omega⟩, tq_tdiv]
  rw [← Int64.ofInt_toInt (lZ a / lZ b), h1]; rfl
theorem iZ_idx {z : Int} {n : Nat} (h : 0 ≤ z ∧ z < n) (hn : n < 2147483648) : vp_in (iZ z) n := by
  rw [vp_in_iff, iZ_toInt ⟨by omega, by omega⟩]; omega
theorem iZ_cl {z : Int} (h : -2147483648 ≤ z ∧ z < 2147483648) : (iZ z).toNatClampNeg = z.toNat := by
  show (iZ z).toInt.toNat = z.toNat
  rw [iZ_toInt h]
theorem bZ_t {b : Bool} (h : b = true) : bZ b = 1 := by rw [h]; rfl
theorem bZ_f {b : Bool} (h : b = false) : bZ b = 0 := by rw [h]; rfl
theorem bZ_rng (b : Bool) : bZ b = 0 ∨ bZ b = 1 := by cases b <;> simp [bZ]
theorem nI_iZ (n : Nat) : nI n = iZ n := by
  show Int32.ofNat n = Int32.ofInt n
  rw [Int32.ofInt_eq_ofNat]
section
variable {p : Program} {l : Launch} {e : Env} {R : Room} {s : State} {m : MethodId} {args : Array Value} {below : List Frame} {meth : Method} {c : Code} {H : Heap} {locs : List Loc} {cells slots : Nat} {Q : State → Prop}
variable {cc : ByteArray} {pc : Nat} {ls : Array Slot} {rest : List Value}
theorem kz_iadd (hx : p.tables.exec = Jvm.exec) (hb : c.code = cc) {x y : Int} (hdg : decode cc pc = .ok (.iadd, 1)) (k : W p l e R s m args below meth c H locs cells slots Q (F0 m (pc + 1) ls (.int (iZ (x + y)) :: rest))) : W p l e R s m args below meth c H locs cells slots Q (F0 m pc ls (.int (iZ y) :: .int (iZ x) :: rest)) := lv_iadd hx hb hdg (by rw [iZ_add]; exact k)
theorem kz_isub (hx : p.tables.exec = Jvm.exec) (hb : c.code = cc) {x y : Int} (hdg : decode cc pc = .ok (.isub, 1)) (k : W p l e R s m args below meth c H locs cells slots Q (F0 m (pc + 1) ls (.int (iZ (x - y)) :: rest))) : W p l e R s m args below meth c H locs cells slots Q (F0 m pc ls (.int (iZ y) :: .int (iZ x) :: rest)) := lv_isub hx hb hdg (by rw [iZ_sub]; exact k)
theorem kz_imul (hx : p.tables.exec = Jvm.exec) (hb : c.code = cc) {x y : Int} (hdg : decode cc pc = .ok (.imul, 1)) (k : W p l e R s m args below meth c H locs cells slots Q (F0 m (pc + 1) ls (.int (iZ (x * y)) :: rest))) : W p l e R s m args below meth c H locs cells slots Q (F0 m pc ls (.int (iZ y) :: .int (iZ x) :: rest)) := lv_imul hx hb hdg (by rw [iZ_mul]; exact k)
theorem kz_ladd (hx : p.tables.exec = Jvm.exec) (hb : c.code = cc) {x y : Int} (hdg : decode cc pc = .ok (.ladd, 1)) (k : W p l e R s m args below meth c H locs cells slots Q (F0 m (pc + 1) ls (.long (lZ (x + y)) :: rest))) : W p l e R s m args below meth c H locs cells slots Q (F0 m pc ls (.long (lZ y) :: .long (lZ x) :: rest)) := lv_ladd hx hb hdg (by rw [lZ_add]; exact k)
theorem kz_lsub (hx : p.tables.exec = Jvm.exec) (hb : c.code = cc) {x y : Int} (hdg : decode cc pc = .ok (.lsub, 1)) (k : W p l e R s m args below meth c H locs cells slots Q (F0 m (pc + 1) ls (.long (lZ (x - y)) :: rest))) : W p l e R s m args below meth c H locs cells slots Q (F0 m pc ls (.long (lZ y) :: .long (lZ x) :: rest)) := lv_lsub hx hb hdg (by rw [lZ_sub]; exact k)
theorem kz_lmul (hx : p.tables.exec = Jvm.exec) (hb : c.code = cc) {x y : Int} (hdg : decode cc pc = .ok (.lmul, 1)) (k : W p l e R s m args below meth c H locs cells slots Q (F0 m (pc + 1) ls (.long (lZ (x * y)) :: rest))) : W p l e R s m args below meth c H locs cells slots Q (F0 m pc ls (.long (lZ y) :: .long (lZ x) :: rest)) := lv_lmul hx hb hdg (by rw [lZ_mul]; exact k)
theorem kz_ineg (hx : p.tables.exec = Jvm.exec) (hb : c.code = cc) {x : Int} (hdg : decode cc pc = .ok (.ineg, 1)) (k : W p l e R s m args below meth c H locs cells slots Q (F0 m (pc + 1) ls (.int (iZ (-x)) :: rest))) : W p l e R s m args below meth c H locs cells slots Q (F0 m pc ls (.int (iZ x) :: rest)) := lv_ineg hx hb hdg (by rw [iZ_neg]; exact k)
theorem kz_lneg (hx : p.tables.exec = Jvm.exec) (hb : c.code = cc) {x : Int} (hdg : decode cc pc = .ok (.lneg, 1)) (k : W p l e R s m args below meth c H locs cells slots Q (F0 m (pc + 1) ls (.long (lZ (-x)) :: rest))) : W p l e R s m args below meth c H locs cells slots Q (F0 m pc ls (.long (lZ x) :: rest)) := lv_lneg hx hb hdg (by rw [lZ_neg]; exact k)
theorem kz_idiv (hx : p.tables.exec = Jvm.exec) (hb : c.code = cc) {x y : Int} (h1 : (-2147483648 ≤ x ∧ x < 2147483648)) (h2 : 0 < y ∧ y < 2147483648) (hdg : decode cc pc = .ok (.idiv, 1)) (k : W p l e R s m args below meth c H locs cells slots Q (F0 m (pc + 1) ls (.int (iZ (tq x y)) :: rest))) : W p l e R s m args below meth c H locs cells slots Q (F0 m pc ls (.int (iZ y) :: .int (iZ x) :: rest)) := lv_idiv hx hb hdg (fun q => by have h9 := congrArg Int32.toInt q; rw [iZ_toInt (z := y) ⟨by omega, by omega⟩] at h9; rw [show (0 : Int32).toInt = 0 from rfl] at h9; omega) (by rw [iZ_div h1 h2]; exact k)
theorem kz_irem (hx : p.tables.exec = Jvm.exec) (hb : c.code = cc) {x y : Int} (h1 : (-2147483648 ≤ x ∧ x < 2147483648)) (h2 : 0 < y ∧ y < 2147483648) (hdg : decode cc pc = .ok (.irem, 1)) (k : W p l e R s m args below meth c H locs cells slots Q (F0 m (pc + 1) ls (.int (iZ (x - tq x y * y)) :: rest))) : W p l e R s m args below meth c H locs cells slots Q (F0 m pc ls (.int (iZ y) :: .int (iZ x) :: rest)) := lv_irem hx hb hdg (fun q => by have h9 := congrArg Int32.toInt q; rw [iZ_toInt (z := y) ⟨by omega, by omega⟩] at h9; rw [show (0 : Int32).toInt = 0 from rfl] at h9; omega) (by rw [iZ_div h1 h2, iZ_mul, iZ_sub]; exact k)
theorem kz_ldiv (hx : p.tables.exec = Jvm.exec) (hb : c.code = cc) {x y : Int} (h1 : (-9223372036854775808 ≤ x ∧ x < 9223372036854775808)) (h2 : 0 < y ∧ y < 9223372036854775808) (hdg : decode cc pc = .ok (.ldiv, 1)) (k : W p l e R s m args below meth c H locs cells slots Q (F0 m (pc + 1) ls (.long (lZ (tq x y)) :: rest))) : W p l e R s m args below meth c H locs cells slots Q (F0 m pc ls (.long (lZ y) :: .long (lZ x) :: rest)) := lv_ldiv hx hb hdg (fun q => by have h9 := congrArg Int64.toInt q; rw [lZ_toInt (z := y) ⟨by omega, by omega⟩] at h9; rw [show (0 : Int64).toInt = 0 from rfl] at h9; omega) (by rw [lZ_div h1 h2]; exact k)
theorem kz_lrem (hx : p.tables.exec = Jvm.exec) (hb : c.code = cc) {x y : Int} (h1 : (-9223372036854775808 ≤ x ∧ x < 9223372036854775808)) (h2 : 0 < y ∧ y < 9223372036854775808) (hdg : decode cc pc = .ok (.lrem, 1)) (k : W p l e R s m args below meth c H locs cells slots Q (F0 m (pc + 1) ls (.long (lZ (x - tq x y * y)) :: rest))) : W p l e R s m args below meth c H locs cells slots Q (F0 m pc ls (.long (lZ y) :: .long (lZ x) :: rest)) := lv_lrem hx hb hdg (fun q => by have h9 := congrArg Int64.toInt q; rw [lZ_toInt (z := y) ⟨by omega, by omega⟩] at h9; rw [show (0 : Int64).toInt = 0 from rfl] at h9; omega) (by rw [lZ_div h1 h2, lZ_mul, lZ_sub]; exact k)
theorem kz_i2l (hx : p.tables.exec = Jvm.exec) (hb : c.code = cc) {x : Int} (h1 : (-2147483648 ≤ x ∧ x < 2147483648)) (hdg : decode cc pc = .ok (.i2l, 1)) (k : W p l e R s m args below meth c H locs cells slots Q (F0 m (pc + 1) ls (.long (lZ x) :: rest))) : W p l e R s m args below meth c H locs cells slots Q (F0 m pc ls (.int (iZ x) :: rest)) := lv_i2l hx hb hdg (iZ_l h1) k
theorem kz_l2i (hx : p.tables.exec = Jvm.exec) (hb : c.code = cc) {x : Int} (hdg : decode cc pc = .ok (.l2i, 1)) (k : W p l e R s m args below meth c H locs cells slots Q (F0 m (pc + 1) ls (.int (iZ x) :: rest))) : W p l e R s m args below meth c H locs cells slots Q (F0 m pc ls (.long (lZ x) :: rest)) := lv_l2i hx hb hdg (lZ_i x) k
theorem kz_icmp_eq (hx : p.tables.exec = Jvm.exec) (hb : c.code = cc) {x y : Int} {off : Int} {tgt : Nat} (h1 : (-2147483648 ≤ x ∧ x < 2147483648)) (h2 : (-2147483648 ≤ y ∧ y < 2147483648)) (hdg : decode cc pc = .ok (.if_icmp .eq off, 3)) (ht : (pc : Int) + off = (tgt : Int)) (kt : x = y → W p l e R s m args below meth c H locs cells slots Q (F0 m tgt ls (rest))) (kf : ¬ x = y → W p l e R s m args below meth c H locs cells slots Q (F0 m (pc + 3) ls (rest))) : W p l e R s m args below meth c H locs cells slots Q (F0 m pc ls (.int (iZ y) :: .int (iZ x) :: rest)) := lv_icmp_eq hx hb hdg ht (fun q => kt ((iZ_eq h1 h2).mp q)) (fun q => kf (fun z => q ((iZ_eq h1 h2).mpr z)))
theorem kz_if_eq (hx : p.tables.exec = Jvm.exec) (hb : c.code = cc) {x : Int} {off : Int} {tgt : Nat} (h1 : (-2147483648 ≤ x ∧ x < 2147483648)) (hdg : decode cc pc = .ok (.ifCond .eq off, 3)) (ht : (pc : Int) + off = (tgt : Int)) (kt : x = 0 → W p l e R s m args below meth c H locs cells slots Q (F0 m tgt ls (rest))) (kf : ¬ x = 0 → W p l e R s m args below meth c H locs cells slots Q (F0 m (pc + 3) ls (rest))) : W p l e R s m args below meth c H locs cells slots Q (F0 m pc ls (.int (iZ x) :: rest)) := by
  have iz0 : (-2147483648 ≤ (0 : Int) ∧ (0 : Int) < 2147483648) := by decide
  exact lv_if_eq hx hb hdg ht (fun q => kt ((iZ_eq h1 iz0).mp q)) (fun q => kf (fun z => q ((iZ_eq h1 iz0).mpr z)))
theorem kz_icmp_ne (hx : p.tables.exec = Jvm.exec) (hb : c.code = cc) {x y : Int} {off : Int} {tgt : Nat} (h1 : (-2147483648 ≤ x ∧ x < 2147483648)) (h2 : (-2147483648 ≤ y ∧ y < 2147483648)) (hdg : decode cc pc = .ok (.if_icmp .ne off, 3)) (ht : (pc : Int) + off = (tgt : Int)) (kt : ¬ x = y → W p l e R s m args below meth c H locs cells slots Q (F0 m tgt ls (rest))) (kf : x = y → W p l e R s m args below meth c H locs cells slots Q (F0 m (pc + 3) ls (rest))) : W p l e R s m args below meth c H locs cells slots Q (F0 m pc ls (.int (iZ y) :: .int (iZ x) :: rest)) := lv_icmp_ne hx hb hdg ht (fun q => kt (fun z => q ((iZ_eq h1 h2).mpr z))) (fun q => kf ((iZ_eq h1 h2).mp q))
theorem kz_if_ne (hx : p.tables.exec = Jvm.exec) (hb : c.code = cc) {x : Int} {off : Int} {tgt : Nat} (h1 : (-2147483648 ≤ x ∧ x < 2147483648)) (hdg : decode cc pc = .ok (.ifCond .ne off, 3)) (ht : (pc : Int) + off = (tgt : Int)) (kt : ¬ x = 0 → W p l e R s m args below meth c H locs cells slots Q (F0 m tgt ls (rest))) (kf : x = 0 → W p l e R s m args below meth c H locs cells slots Q (F0 m (pc + 3) ls (rest))) : W p l e R s m args below meth c H locs cells slots Q (F0 m pc ls (.int (iZ x) :: rest)) := by
  have iz0 : (-2147483648 ≤ (0 : Int) ∧ (0 : Int) < 2147483648) := by decide
  exact lv_if_ne hx hb hdg ht (fun q => kt (fun z => q ((iZ_eq h1 iz0).mpr z))) (fun q => kf ((iZ_eq h1 iz0).mp q))
theorem kz_icmp_lt (hx : p.tables.exec = Jvm.exec) (hb : c.code = cc) {x y : Int} {off : Int} {tgt : Nat} (h1 : (-2147483648 ≤ x ∧ x < 2147483648)) (h2 : (-2147483648 ≤ y ∧ y < 2147483648)) (hdg : decode cc pc = .ok (.if_icmp .lt off, 3)) (ht : (pc : Int) + off = (tgt : Int)) (kt : x < y → W p l e R s m args below meth c H locs cells slots Q (F0 m tgt ls (rest))) (kf : ¬ x < y → W p l e R s m args below meth c H locs cells slots Q (F0 m (pc + 3) ls (rest))) : W p l e R s m args below meth c H locs cells slots Q (F0 m pc ls (.int (iZ y) :: .int (iZ x) :: rest)) := lv_icmp_lt hx hb hdg ht (fun q => kt ((iZ_lt h1 h2).mp q)) (fun q => kf (fun z => q ((iZ_lt h1 h2).mpr z)))
theorem kz_if_lt (hx : p.tables.exec = Jvm.exec) (hb : c.code = cc) {x : Int} {off : Int} {tgt : Nat} (h1 : (-2147483648 ≤ x ∧ x < 2147483648)) (hdg : decode cc pc = .ok (.ifCond .lt off, 3)) (ht : (pc : Int) + off = (tgt : Int)) (kt : x < 0 → W p l e R s m args below meth c H locs cells slots Q (F0 m tgt ls (rest))) (kf : ¬ x < 0 → W p l e R s m args below meth c H locs cells slots Q (F0 m (pc + 3) ls (rest))) : W p l e R s m args below meth c H locs cells slots Q (F0 m pc ls (.int (iZ x) :: rest)) := by
  have iz0 : (-2147483648 ≤ (0 : Int) ∧ (0 : Int) < 2147483648) := by decide
  exact lv_if_lt hx hb hdg ht (fun q => kt ((iZ_lt h1 iz0).mp q)) (fun q => kf (fun z => q ((iZ_lt h1 iz0).mpr z)))
theorem kz_icmp_ge (hx : p.tables.exec = Jvm.exec) (hb : c.code = cc) {x y : Int} {off : Int} {tgt : Nat} (h1 : (-2147483648 ≤ x ∧ x < 2147483648)) (h2 : (-2147483648 ≤ y ∧ y < 2147483648)) (hdg : decode cc pc = .ok (.if_icmp .ge off, 3)) (ht : (pc : Int) + off = (tgt : Int)) (kt : y ≤ x → W p l e R s m args below meth c H locs cells slots Q (F0 m tgt ls (rest))) (kf : ¬ y ≤ x → W p l e R s m args below meth c H locs cells slots Q (F0 m (pc + 3) ls (rest))) : W p l e R s m args below meth c H locs cells slots Q (F0 m pc ls (.int (iZ y) :: .int (iZ x) :: rest)) := lv_icmp_ge hx hb hdg ht (fun q => kt ((iZ_le h2 h1).mp q)) (fun q => kf (fun z => q ((iZ_le h2 h1).mpr z)))
theorem kz_if_ge (hx : p.tables.exec = Jvm.exec) (hb : c.code = cc) {x : Int} {off : Int} {tgt : Nat} (h1 : (-2147483648 ≤ x ∧ x < 2147483648)) (hdg : decode cc pc = .ok (.ifCond .ge off, 3)) (ht : (pc : Int) + off = (tgt : Int)) (kt : 0 ≤ x → W p l e R s m args below meth c H locs cells slots Q (F0 m tgt ls (rest))) (kf : ¬ 0 ≤ x → W p l e R s m args below meth c H locs cells slots Q (F0 m (pc + 3) ls (rest))) : W p l e R s m args below meth c H locs cells slots Q (F0 m pc ls (.int (iZ x) :: rest)) := by
  have iz0 : (-2147483648 ≤ (0 : Int) ∧ (0 : Int) < 2147483648) := by decide
  exact lv_if_ge hx hb hdg ht (fun q => kt ((iZ_le iz0 h1).mp q)) (fun q => kf (fun z => q ((iZ_le iz0 h1).mpr z)))
theorem kz_icmp_gt (hx : p.tables.exec = Jvm.exec) (hb : c.code = cc) {x y : Int} {off : Int} {tgt : Nat} (h1 : (-2147483648 ≤ x ∧ x < 2147483648)) (h2 : (-2147483648 ≤ y ∧ y < 2147483648)) (hdg : decode cc pc = .ok (.if_icmp .gt off, 3)) (ht : (pc : Int) + off = (tgt : Int)) (kt : y < x → W p l e R s m args below meth c H locs cells slots Q (F0 m tgt ls (rest))) (kf : ¬ y < x → W p l e R s m args below meth c H locs cells slots Q (F0 m (pc + 3) ls (rest))) : W p l e R s m args below meth c H locs cells slots Q (F0 m pc ls (.int (iZ y) :: .int (iZ x) :: rest)) := lv_icmp_gt hx hb hdg ht (fun q => kt ((iZ_lt h2 h1).mp q)) (fun q => kf (fun z => q ((iZ_lt h2 h1).mpr z)))
theorem kz_if_gt (hx : p.tables.exec = Jvm.exec) (hb : c.code = cc) {x : Int} {off : Int} {tgt : Nat} (h1 : (-2147483648 ≤ x ∧ x < 2147483648)) (hdg : decode cc pc = .ok (.ifCond .gt off, 3)) (ht : (pc : Int) + off = (tgt : Int)) (kt : 0 < x → W p l e R s m args below meth c H locs cells slots Q (F0 m tgt ls (rest))) (kf : ¬ 0 < x → W p l e R s m args below meth c H locs cells slots Q (F0 m (pc + 3) ls (rest))) : W p l e R s m args below meth c H locs cells slots Q (F0 m pc ls (.int (iZ x) :: rest)) := by
  have iz0 : (-2147483648 ≤ (0 : Int) ∧ (0 : Int) < 2147483648) := by decide
  exact lv_if_gt hx hb hdg ht (fun q => kt ((iZ_lt iz0 h1).mp q)) (fun q => kf (fun z => q ((iZ_lt iz0 h1).mpr z)))
theorem kz_icmp_le (hx : p.tables.exec = Jvm.exec) (hb : c.code = cc) {x y : Int} {off : Int} {tgt : Nat} (h1 : (-2147483648 ≤ x ∧ x < 2147483648)) (h2 : (-2147483648 ≤ y ∧ y < 2147483648)) (hdg : decode cc pc = .ok (.if_icmp .le off, 3)) (ht : (pc : Int) + off = (tgt : Int)) (kt : x ≤ y → W p l e R s m args below meth c H locs cells slots Q (F0 m tgt ls (rest))) (kf : ¬ x ≤ y → W p l e R s m args below meth c H locs cells slots Q (F0 m (pc + 3) ls (rest))) : W p l e R s m args below meth c H locs cells slots Q (F0 m pc ls (.int (iZ y) :: .int (iZ x) :: rest)) := lv_icmp_le hx hb hdg ht (fun q => kt ((iZ_le h1 h2).mp q)) (fun q => kf (fun z => q ((iZ_le h1 h2).mpr z)))
theorem kz_if_le (hx : p.tables.exec = Jvm.exec) (hb : c.code = cc) {x : Int} {off : Int} {tgt : Nat} (h1 : (-2147483648 ≤ x ∧ x < 2147483648)) (hdg : decode cc pc = .ok (.ifCond .le off, 3)) (ht : (pc : Int) + off = (tgt : Int)) (kt : x ≤ 0 → W p l e R s m args below meth c H locs cells slots Q (F0 m tgt ls (rest))) (kf : ¬ x ≤ 0 → W p l e R s m args below meth c H locs cells slots Q (F0 m (pc + 3) ls (rest))) : W p l e R s m args below meth c H locs cells slots Q (F0 m pc ls (.int (iZ x) :: rest)) := by
  have iz0 : (-2147483648 ≤ (0 : Int) ∧ (0 : Int) < 2147483648) := by decide
  exact lv_if_le hx hb hdg ht (fun q => kt ((iZ_le h1 iz0).mp q)) (fun q => kf (fun z => q ((iZ_le h1 iz0).mpr z)))
theorem kz_cmp {x y : Int} (h1 : (-9223372036854775808 ≤ x ∧ x < 9223372036854775808)) (h2 : (-9223372036854775808 ≤ y ∧ y < 9223372036854775808)) : lg_cmp (lZ x) (lZ y) = iZ (if y < x then 1 else if x = y then 0 else -1) := by
  unfold lg_cmp
  by_cases q : y < x
  · rw [if_pos ((lZ_lt h2 h1).mpr q), if_pos q]; rfl
  · rw [if_neg (fun z => q ((lZ_lt h2 h1).mp z)), if_neg q]
    by_cases q2 : x = y
    · rw [if_pos ((lZ_eq h1 h2).mpr q2), if_pos q2]; rfl
    · rw [if_neg (fun z => q2 ((lZ_eq h1 h2).mp z)), if_neg q2]; rfl
theorem kz_lcmp_eq (hx : p.tables.exec = Jvm.exec) (hb : c.code = cc) {x y : Int} {off : Int} {tgt : Nat} (h1 : (-9223372036854775808 ≤ x ∧ x < 9223372036854775808)) (h2 : (-9223372036854775808 ≤ y ∧ y < 9223372036854775808)) (hdg : decode cc pc = .ok (.lcmp, 1)) (hdg2 : decode cc (pc + 1) = .ok (.ifCond .eq off, 3)) (ht : ((pc + 1 : Nat) : Int) + off = (tgt : Int)) (kt : x = y → W p l e R s m args below meth c H locs cells slots Q (F0 m tgt ls (rest))) (kf : ¬ x = y → W p l e R s m args below meth c H locs cells slots Q (F0 m (pc + 4) ls (rest))) : W p l e R s m args below meth c H locs cells slots Q (F0 m pc ls (.long (lZ y) :: .long (lZ x) :: rest)) := by
  refine W.lcmp hx hb hdg ?_
  rw [kz_cmp h1 h2]
  refine kz_if_eq hx hb (by split <;> (try split) <;> omega) hdg2 ht (fun q => kt ?_) (fun q => kf ?_)
  · split at q <;> (try split at q) <;> omega
  · split at q <;> (try split at q) <;> omega
theorem kz_lcmp_ne (hx : p.tables.exec = Jvm.exec) (hb : c.code = cc) {x y : Int} {off : Int} {tgt : Nat} (h1 : (-9223372036854775808 ≤ x ∧ x < 9223372036854775808)) (h2 : (-9223372036854775808 ≤ y ∧ y < 9223372036854775808)) (hdg : decode cc pc = .ok (.lcmp, 1)) (hdg2 : decode cc (pc + 1) = .ok (.ifCond .ne off, 3)) (ht : ((pc + 1 : Nat) : Int) + off = (tgt : Int)) (kt : ¬ x = y → W p l e R s m args below meth c H locs cells slots Q (F0 m tgt ls (rest))) (kf : x = y → W p l e R s m args below meth c H locs cells slots Q (F0 m (pc + 4) ls (rest))) : W p l e R s m args below meth c H locs cells slots Q (F0 m pc ls (.long (lZ y) :: .long (lZ x) :: rest)) := by
  refine W.lcmp hx hb hdg ?_
  rw [kz_cmp h1 h2]
  refine kz_if_ne hx hb (by split <;> (try split) <;> omega) hdg2 ht (fun q => kt ?_) (fun q => kf ?_)
  · split at q <;> (try split at q) <;> omega
  · split at q <;> (try split at q) <;> omega
theorem kz_lcmp_lt (hx : p.tables.exec = Jvm.exec) (hb : c.code = cc) {x y : Int} {off : Int} {tgt : Nat} (h1 : (-9223372036854775808 ≤ x ∧ x < 9223372036854775808)) (h2 : (-9223372036854775808 ≤ y ∧ y < 9223372036854775808)) (hdg : decode cc pc = .ok (.lcmp, 1)) (hdg2 : decode cc (pc + 1) = .ok (.ifCond .lt off, 3)) (ht : ((pc + 1 : Nat) : Int) + off = (tgt : Int)) (kt : x < y → W p l e R s m args below meth c H locs cells slots Q (F0 m tgt ls (rest))) (kf : ¬ x < y → W p l e R s m args below meth c H locs cells slots Q (F0 m (pc + 4) ls (rest))) : W p l e R s m args below meth c H locs cells slots Q (F0 m pc ls (.long (lZ y) :: .long (lZ x) :: rest)) := by
  refine W.lcmp hx hb hdg ?_
  rw [kz_cmp h1 h2]
  refine kz_if_lt hx hb (by split <;> (try split) <;> omega) hdg2 ht (fun q => kt ?_) (fun q => kf ?_)
  · split at q <;> (try split at q) <;> omega
  · split at q <;> (try split at q) <;> omega
theorem kz_lcmp_ge (hx : p.tables.exec = Jvm.exec) (hb : c.code = cc) {x y : Int} {off : Int} {tgt : Nat} (h1 : (-9223372036854775808 ≤ x ∧ x < 9223372036854775808)) (h2 : (-9223372036854775808 ≤ y ∧ y < 9223372036854775808)) (hdg : decode cc pc = .ok (.lcmp, 1)) (hdg2 : decode cc (pc + 1) = .ok (.ifCond .ge off, 3)) (ht : ((pc + 1 : Nat) : Int) + off = (tgt : Int)) (kt : y ≤ x → W p l e R s m args below meth c H locs cells slots Q (F0 m tgt ls (rest))) (kf : ¬ y ≤ x → W p l e R s m args below meth c H locs cells slots Q (F0 m (pc + 4) ls (rest))) : W p l e R s m args below meth c H locs cells slots Q (F0 m pc ls (.long (lZ y) :: .long (lZ x) :: rest)) := by
  refine W.lcmp hx hb hdg ?_
  rw [kz_cmp h1 h2]
  refine kz_if_ge hx hb (by split <;> (try split) <;> omega) hdg2 ht (fun q => kt ?_) (fun q => kf ?_)
  · split at q <;> (try split at q) <;> omega
  · split at q <;> (try split at q) <;> omega
theorem kz_lcmp_gt (hx : p.tables.exec = Jvm.exec) (hb : c.code = cc) {x y : Int} {off : Int} {tgt : Nat} (h1 : (-9223372036854775808 ≤ x ∧ x < 9223372036854775808)) (h2 : (-9223372036854775808 ≤ y ∧ y < 9223372036854775808)) (hdg : decode cc pc = .ok (.lcmp, 1)) (hdg2 : decode cc (pc + 1) = .ok (.ifCond .gt off, 3)) (ht : ((pc + 1 : Nat) : Int) + off = (tgt : Int)) (kt : y < x → W p l e R s m args below meth c H locs cells slots Q (F0 m tgt ls (rest))) (kf : ¬ y < x → W p l e R s m args below meth c H locs cells slots Q (F0 m (pc + 4) ls (rest))) : W p l e R s m args below meth c H locs cells slots Q (F0 m pc ls (.long (lZ y) :: .long (lZ x) :: rest)) := by
  refine W.lcmp hx hb hdg ?_
  rw [kz_cmp h1 h2]
  refine kz_if_gt hx hb (by split <;> (try split) <;> omega) hdg2 ht (fun q => kt ?_) (fun q => kf ?_)
  · split at q <;> (try split at q) <;> omega
  · split at q <;> (try split at q) <;> omega
theorem kz_lcmp_le (hx : p.tables.exec = Jvm.exec) (hb : c.code = cc) {x y : Int} {off : Int} {tgt : Nat} (h1 : (-9223372036854775808 ≤ x ∧ x < 9223372036854775808)) (h2 : (-9223372036854775808 ≤ y ∧ y < 9223372036854775808)) (hdg : decode cc pc = .ok (.lcmp, 1)) (hdg2 : decode cc (pc + 1) = .ok (.ifCond .le off, 3)) (ht : ((pc + 1 : Nat) : Int) + off = (tgt : Int)) (kt : x ≤ y → W p l e R s m args below meth c H locs cells slots Q (F0 m tgt ls (rest))) (kf : ¬ x ≤ y → W p l e R s m args below meth c H locs cells slots Q (F0 m (pc + 4) ls (rest))) : W p l e R s m args below meth c H locs cells slots Q (F0 m pc ls (.long (lZ y) :: .long (lZ x) :: rest)) := by
  refine W.lcmp hx hb hdg ?_
  rw [kz_cmp h1 h2]
  refine kz_if_le hx hb (by split <;> (try split) <;> omega) hdg2 ht (fun q => kt ?_) (fun q => kf ?_)
  · split at q <;> (try split at q) <;> omega
  · split at q <;> (try split at q) <;> omega
theorem kz_ifb_eq (hx : p.tables.exec = Jvm.exec) (hb : c.code = cc) {b : Bool} {off : Int} {tgt : Nat} (hdg : decode cc pc = .ok (.ifCond .eq off, 3)) (ht : (pc : Int) + off = (tgt : Int)) (kt : b = false → W p l e R s m args below meth c H locs cells slots Q (F0 m tgt ls (rest))) (kf : b = true → W p l e R s m args below meth c H locs cells slots Q (F0 m (pc + 3) ls (rest))) : W p l e R s m args below meth c H locs cells slots Q (F0 m pc ls (.int (iZ (bZ b)) :: rest)) := by
  refine kz_if_eq hx hb (by cases b <;> decide) hdg ht (fun q => kt ?_) (fun q => kf ?_)
  · cases b <;> first | rfl | (exact absurd q (by decide))
  · cases b <;> first | rfl | (exact absurd q (by decide))
theorem kz_ifb_ne (hx : p.tables.exec = Jvm.exec) (hb : c.code = cc) {b : Bool} {off : Int} {tgt : Nat} (hdg : decode cc pc = .ok (.ifCond .ne off, 3)) (ht : (pc : Int) + off = (tgt : Int)) (kt : b = true → W p l e R s m args below meth c H locs cells slots Q (F0 m tgt ls (rest))) (kf : b = false → W p l e R s m args below meth c H locs cells slots Q (F0 m (pc + 3) ls (rest))) : W p l e R s m args below meth c H locs cells slots Q (F0 m pc ls (.int (iZ (bZ b)) :: rest)) := by
  refine kz_if_ne hx hb (by cases b <;> decide) hdg ht (fun q => kt ?_) (fun q => kf ?_)
  · cases b <;> first | rfl | (exact absurd q (by decide))
  · cases b <;> first | rfl | (exact absurd q (by decide))
/-- an answer v, the heap as it was -/
def kQ0 (v : Option Value) (H0 : Heap) : Array Value → State → Outcome → State → Prop := fun _ _ oc t => oc = .returned v ∧ t.heap = H0
def kN : Nat → Prop := fun _ => False
theorem kc0 {a : Array Value} {st0 : List Value} {v : Value} {free : Addr → Prop} (hfr : ∀ q, ¬ free q) (hr : va_Run p l e R s m args below meth c H locs cells slots 0 0 (F0 m pc ls st0) rest (kQ0 (some v) H a) free) (kk : W p l e R s m args below meth c H locs cells slots Q (F0 m (pc + 3) ls (v :: rest))) : W p l e R s m args below meth c H locs cells slots Q (F0 m pc ls (st0)) := by
  intro T hT X
  obtain ⟨v1, st₀, t, T', L, h0, X', hL, e1, e2, ⟨hv, hh⟩, st⟩ := hr T hT X
  cases hv
  have hL0 : L = [] := by
    cases L with
    | nil => rfl
    | cons q L => exact absurd (hL q List.mem_cons_self) (hfr _)
  subst hL0
  rw [List.append_nil] at X'
  obtain ⟨t2, a1, b1⟩ := kk T' (by rw [e1, hh]) X'
  exact ⟨t2, st t2 a1, b1⟩
theorem kc0v {a : Array Value} {st0 : List Value} {free : Addr → Prop} (hfr : ∀ q, ¬ free q) (hr : va_Run p l e R s m args below meth c H locs cells slots 0 0 (F0 m pc ls st0) rest (kQ0 none H a) free) (kk : W p l e R s m args below meth c H locs cells slots Q (F0 m (pc + 3) ls (rest))) : W p l e R s m args below meth c H locs cells slots Q (F0 m pc ls (st0)) := by
  intro T hT X
  obtain ⟨v1, st₀, t, T', L, h0, X', hL, e1, e2, ⟨hv, hh⟩, st⟩ := hr T hT X
  cases hv
  have hL0 : L = [] := by
    cases L with
    | nil => rfl
    | cons q L => exact absurd (hL q List.mem_cons_self) (hfr _)
  subst hL0
  rw [List.append_nil] at X'
  obtain ⟨t2, a1, b1⟩ := kk T' (by rw [e1, hh]) X'
  exact ⟨t2, st t2 a1, b1⟩
end
