/-! decimal texts -/
def ndg (a : Nat) : Nat := if h : a < 10 then 1 else ndg (a / 10) + 1
termination_by a
decreasing_by omega
theorem ndg_pos (a : Nat) : 1 ≤ ndg a := by
  rw [ndg]; split <;> omega
theorem ndg_lt (a : Nat) : a < 10 ^ ndg a := by
  induction a using Nat.strongRecOn with
  | _ a ih =>
    rw [ndg]
    split
    · omega
    · rename_i h
      have h1 := ih (a / 10) (by omega)
      rw [Nat.pow_succ]
      omega
theorem ndg_ge (a : Nat) : ∀ k, 1 ≤ k → k < ndg a → 10 ^ k ≤ a := by
  induction a using Nat.strongRecOn with
  | _ a ih =>
    intro k hk h
    rw [ndg] at h
    split at h
    · omega
    · rename_i h0
      obtain ⟨d, rfl⟩ : ∃ d, k = d + 1 := ⟨k - 1, by omega⟩
      rw [Nat.pow_succ]
      by_cases hd : d = 0
      · subst hd; omega
      · have h1 := ih (a / 10) (by omega) d (by omega) (by omega)
        omega
theorem ndg_le {a n : Nat} (hn : 1 ≤ n) (h : a < 10 ^ n) : ndg a ≤ n := by
  by_cases q : n < ndg a
  · exact absurd (ndg_ge a n hn q) (Nat.not_le.mpr h)
  · omega
theorem ndg_13 {a : Nat} (h : a < 10000000000000) : ndg a ≤ 13 := ndg_le (by decide) (by rw [show (10 : Nat) ^ 13 = 10000000000000 from by decide]; exact h)
def TL (z : Int) : Nat := ndg z.natAbs + (if z < 0 then 1 else 0)
def TX (z : Int) (j : Nat) : Int := if z < 0 ∧ j = 0 then 45 else 48 + ((z.natAbs / 10 ^ (TL z - 1 - j) % 10 : Nat) : Int)
theorem TX_rng (z : Int) (j : Nat) : 45 ≤ TX z j ∧ TX z j < 58 := by
  unfold TX
  split
  · omega
  · have := Nat.mod_lt (z.natAbs / 10 ^ (TL z - 1 - j)) (show 10 > 0 by decide)
    omega
theorem TL_rng {z : Int} (h : z.natAbs < 10000000000000) : 1 ≤ TL z ∧ TL z ≤ 14 := by
  have h1 := ndg_pos z.natAbs
  have h2 := ndg_13 h
  unfold TL; split <;> omega
theorem kpow13 {n : Nat} (h : n ≤ 13) : 1 ≤ 10 ^ n ∧ 10 ^ n ≤ 10000000000000 := by
  have h1 := Nat.pow_le_pow_right (n := 10) (by decide) h
  rw [show (10 : Nat) ^ 13 = 10000000000000 from by decide] at h1
  exact ⟨Nat.pow_pos (by decide), h1⟩
def Aq (a : Nat) : Nat → Nat
  | 0 => a
  | k + 1 => Aq a k / 100
theorem Aq_le (a k : Nat) : Aq a k ≤ a := by
  induction k with
  | zero => exact Nat.le_refl _
  | succ k ih => show Aq a k / 100 ≤ a; omega
theorem Aq_pow (a k : Nat) : Aq a k = a / 10 ^ (2 * k) := by
  induction k with
  | zero => show a = a / 10 ^ 0; rw [Nat.pow_zero, Nat.div_one]
  | succ k ih =>
    show Aq a k / 100 = _
    rw [ih, Nat.div_div_eq_div_mul, show 2 * (k + 1) = 2 * k + 1 + 1 from by omega, Nat.pow_succ, Nat.pow_succ, Nat.mul_assoc]
/-- how many pairs of digits -/
def KP (a : Nat) : Nat := (ndg a - 1) / 2
def K1 (a : Nat) : Nat := if a < 2147483648 then 0 else if a < 214748364800 then 1 else 2
theorem Aq_ge {a k : Nat} (h : k < KP a) : 100 ≤ Aq a k := by
  unfold KP at h
  have h1 := ndg_ge a (2 * k + 2) (by omega) (by omega)
  rw [Aq_pow]
  rw [Nat.pow_succ, Nat.pow_succ] at h1
  exact (Nat.le_div_iff_mul_le (Nat.pow_pos (by decide))).mpr (by rw [Nat.mul_comm]; omega)
theorem Aq_lt {a : Nat} : Aq a (KP a) < 100 := by
  have h1 := ndg_lt a
  have h2 : ndg a ≤ 2 * KP a + 2 := by unfold KP; omega
  have h3 := Nat.pow_le_pow_right (n := 10) (by decide) h2
  rw [Nat.pow_succ, Nat.pow_succ] at h3
  rw [Aq_pow]
  exact (Nat.div_lt_iff_lt_mul (Nat.pow_pos (by decide))).mpr (by rw [Nat.mul_comm]; omega)
theorem Aq_10 {a : Nat} : (10 ≤ Aq a (KP a) → ndg a = 2 * KP a + 2) ∧ (Aq a (KP a) < 10 → ndg a = 2 * KP a + 1) := by
  have h0 := ndg_pos a
  have h2 : 2 * KP a + 1 ≤ ndg a ∧ ndg a ≤ 2 * KP a + 2 := by unfold KP; omega
  constructor
  · intro h
    by_cases q : ndg a = 2 * KP a + 2
    · exact q
    · have h3 := ndg_lt a
      rw [show ndg a = 2 * KP a + 1 by omega, Nat.pow_succ] at h3
      rw [Aq_pow] at h
      have h4 := (Nat.le_div_iff_mul_le (Nat.pow_pos (n := 2 * KP a) (show 0 < 10 by decide))).mp h
      rw [Nat.mul_comm] at h4
      omega
  · intro h
    by_cases q : ndg a = 2 * KP a + 1
    · exact q
    · have h3 := ndg_ge a (2 * KP a + 1) (by omega) (by omega)
      rw [Nat.pow_succ] at h3
      rw [Aq_pow] at h
      have h4 := (Nat.div_lt_iff_lt_mul (Nat.pow_pos (n := 2 * KP a) (show 0 < 10 by decide))).mp h
      rw [Nat.mul_comm] at h4
      omega
theorem K1_ge {a k : Nat} (h : k < K1 a) : 2147483648 ≤ Aq a k := by
  unfold K1 at h
  split at h
  · omega
  · split at h
    · have : k = 0 := by omega
      subst this; show 2147483648 ≤ a; omega
    · rcases (show k = 0 ∨ k = 1 by omega) with rfl | rfl
      · show 2147483648 ≤ a; omega
      · show 2147483648 ≤ a / 100; omega
theorem K1_lt {a : Nat} (ha : a < 10000000000000) : Aq a (K1 a) < 2147483648 := by
  unfold K1
  split
  · rename_i h; exact h
  · split
    · show a / 100 < 2147483648; omega
    · show a / 100 / 100 < 2147483648; omega
theorem Aq_mono (a k d : Nat) : Aq a (k + d) ≤ Aq a k := by
  induction d with
  | zero => exact Nat.le_refl _
  | succ d ih => show Aq a (k + d) / 100 ≤ _; omega
theorem K1_KP (a : Nat) : K1 a ≤ KP a := by
  by_cases q : KP a < K1 a
  · have h1 := K1_ge q
    have h2 := Aq_lt (a := a)
    omega
  · omega
theorem tq_n100 (a : Nat) : tq (-(a : Int)) 100 = -((a / 100 : Nat) : Int) := by
  unfold tq; split <;> omega
def GT (z : Int) (g : Nat → Int) (c : Nat) : Prop := ∀ j, c ≤ j → j < TL z → g j = TX z j
theorem GT_0 (z : Int) (g : Nat → Int) : GT z g (TL z) := fun j h1 h2 => by omega
theorem GT_step {z : Int} {g : Nat → Int} {c i : Nat} {v : Int} (h : GT z g c) (hc : c = i + 1) (hv : v = TX z i) : GT z (gu g i v) i := fun j h1 h2 => by
  unfold gu
  by_cases e : j = i
  · rw [if_pos e, hv, e]
  · rw [if_neg e]; exact h j (by omega) h2
theorem TX_o {z : Int} {k i : Nat} (hi : i + 2 * k + 1 = TL z) (hk : 2 * k + 1 ≤ ndg z.natAbs) : TX z i = 48 + ((Aq z.natAbs k % 10 : Nat) : Int) := by
  unfold TX
  rw [if_neg (fun q => by unfold TL at hi; rw [if_pos q.1, q.2] at hi; omega), show TL z - 1 - i = 2 * k by omega, Aq_pow]
theorem TX_t {z : Int} {k i : Nat} (hi : i + 2 * k + 2 = TL z) (hk : 2 * k + 2 ≤ ndg z.natAbs) : TX z i = 48 + ((Aq z.natAbs k / 10 % 10 : Nat) : Int) := by
  unfold TX
  rw [if_neg (fun q => by unfold TL at hi; rw [if_pos q.1, q.2] at hi; omega), show TL z - 1 - i = 2 * k + 1 by omega, Aq_pow, Nat.pow_succ, Nat.div_div_eq_div_mul]
theorem TX_m {z : Int} (h : z < 0) : TX z 0 = 45 := if_pos ⟨h, rfl⟩
abbrev ww_J13_stringSize_95d88 : List Cond := .code yJ13_stringSize_95d88 cJ13_stringSize_95d88 6 (some .int) :: gT
set_option maxHeartbeats 4000000 in
set_option maxRecDepth 100000 in
/-- J13_stringSize_95d88 -/
theorem c_J13_stringSize_95d88 (l : Launch) (H0 : Heap) (zz : Int) (h0 : zz.natAbs < 10000000000000) : Met l yJ13_stringSize_95d88 ww_J13_stringSize_95d88 ({ frames := 0, cells := 0, slots := 0, locals := 0 }) (va_Pc [.long (lZ (zz))] (fun U => U.heap = H0)) (kQ0 (some (.int (iZ (((TL zz : Nat) : Int))))) H0) 0 0 kN := by
  refine va_MetF (cc := cJ13_stringSize_95d88) (maxL := 6) (ret := (some .int)) (by decide +kernel) rfl ?_
  intro p e s m args below meth c s₁ B hml hv
  obtain ⟨rfl, hH⟩ := hv
  subst hH
  have hx := B.exec
  have hb := B.bytes
  have hr := B.returns
  have hts := atoms_spec (ws := ww_J13_stringSize_95d88) B.pre
  have hown : s.vm.findClass RJ13 = some m.cls := findClass_of_methodNamed B.named
  have hlocks := B.notSynchronized
  have hl := lv_entry ([.long (lZ (zz))]) (n := 6) (Nat.le_of_ble_eq_true rfl)
  rw [lg_entry_eq]
  generalize (lg_sl ([.long (lZ (zz))]) ++ List.replicate (6 - (lg_sl ([.long (lZ (zz))])).length) Slot.unset).toArray = ls at hl ⊢
  have hl : lv_has ls 6 [(0, .long (lZ (zz)))] := hl
  refine lv_iconst (v := iZ 1) hx hb dJ13_stringSize_95d88_0 rfl ?_
  refine lv_istore_n (lv' := [(2, .int (iZ 1)), (0, .long (lZ (zz)))]) hx hb dJ13_stringSize_95d88_1 rfl hl (by decide) rfl (fun ls hl => ?_)
  refine lv_lload_n hx hb dJ13_stringSize_95d88_2 rfl (lv_at hl 1 rfl) ?_
  refine lv_lconst (v := lZ 0) hx hb dJ13_stringSize_95d88_3 rfl ?_
  refine kz_lcmp_lt (tgt := 13) hx hb (by first | omega | (have h8 := kpow13 (n := kk + 1) (by have := ndg_13 h0; omega); have h7 := ndg_13 h0; omega) | (have h8 := kpow13 (n := ndg zz.natAbs - 1 + 1) (by have := ndg_13 h0; have := ndg_pos zz.natAbs; omega); have h7 := ndg_13 h0; omega)) (by first | omega | (have h8 := kpow13 (n := kk + 1) (by have := ndg_13 h0; omega); have h7 := ndg_13 h0; omega) | (have h8 := kpow13 (n := ndg zz.natAbs - 1 + 1) (by have := ndg_13 h0; have := ndg_pos zz.natAbs; omega); have h7 := ndg_13 h0; omega)) dJ13_stringSize_95d88_4 dJ13_stringSize_95d88_5 (by decide) (fun c_1 => ?_) (fun c_1 => ?_)
  · refine lv_ldc2 (v := lZ (-10)) hx hb hown (hts _ (List.mem_cons_of_mem _ mw1275)) dJ13_stringSize_95d88_13 ?_
    refine lv_lstore_n (lv' := [(3, .long (lZ ((-10)))), (2, .int (iZ 1)), (0, .long (lZ (zz)))]) hx hb dJ13_stringSize_95d88_16 rfl hl (by decide) rfl (fun ls hl => ?_)
    refine lv_iconst (v := iZ 1) hx hb dJ13_stringSize_95d88_17 rfl ?_
    refine lv_istore (lv' := [(5, .int (iZ 1)), (3, .long (lZ ((-10)))), (2, .int (iZ 1)), (0, .long (lZ (zz)))]) hx hb dJ13_stringSize_95d88_18 hl (by decide) rfl (fun ls hl => ?_)
    refine k_loop (W := fun ls => W p l e _ s m _ below meth c s.heap [] 0 0 _ (F0 m 20 ls [])) (I := fun (kk : Nat) ls => lv_has ls 6 [(3, .long (lZ (-((10 ^ (kk + 1) : Nat) : Int)))), (5, .int (iZ (((kk : Nat) : Int) + 1))), (2, .int (iZ 1)), (0, .long (lZ (zz)))]) (ndg zz.natAbs - 1) 0 (Nat.zero_le _) (by have h9 := (lv_sub hl [1, 0, 2, 3] rfl); exact h9) (fun ls hl => ?_) (fun kk ls hk hl ih => ?_)
    · refine lv_iload hx hb dJ13_stringSize_95d88_20 (lv_at hl 1 rfl) ?_
      refine lv_bipush (v := iZ 19) hx hb dJ13_stringSize_95d88_22 rfl ?_
      refine kz_icmp_ge (tgt := 50) hx hb (by first | omega | (have h8 := kpow13 (n := kk + 1) (by have := ndg_13 h0; omega); have h7 := ndg_13 h0; omega) | (have h8 := kpow13 (n := ndg zz.natAbs - 1 + 1) (by have := ndg_13 h0; have := ndg_pos zz.natAbs; omega); have h7 := ndg_13 h0; omega)) (by first | omega | (have h8 := kpow13 (n := kk + 1) (by have := ndg_13 h0; omega); have h7 := ndg_13 h0; omega) | (have h8 := kpow13 (n := ndg zz.natAbs - 1 + 1) (by have := ndg_13 h0; have := ndg_pos zz.natAbs; omega); have h7 := ndg_13 h0; omega)) dJ13_stringSize_95d88_24 (by decide) (fun c_2 => absurd c_2 (by have := ndg_13 h0; omega)) (fun c_2 => ?_)
      refine lv_lload_n hx hb dJ13_stringSize_95d88_27 rfl (lv_at hl 3 rfl) ?_
      refine lv_lload_n hx hb dJ13_stringSize_95d88_28 rfl (lv_at hl 0 rfl) ?_
      refine kz_lcmp_le (tgt := 38) hx hb (by first | omega | (have h8 := kpow13 (n := kk + 1) (by have := ndg_13 h0; omega); have h7 := ndg_13 h0; omega) | (have h8 := kpow13 (n := ndg zz.natAbs - 1 + 1) (by have := ndg_13 h0; have := ndg_pos zz.natAbs; omega); have h7 := ndg_13 h0; omega)) (by first | omega | (have h8 := kpow13 (n := kk + 1) (by have := ndg_13 h0; omega); have h7 := ndg_13 h0; omega) | (have h8 := kpow13 (n := ndg zz.natAbs - 1 + 1) (by have := ndg_13 h0; have := ndg_pos zz.natAbs; omega); have h7 := ndg_13 h0; omega)) dJ13_stringSize_95d88_29 dJ13_stringSize_95d88_30 (by decide) (fun c_3 => absurd c_3 (by have h7 := ndg_lt zz.natAbs; have h8 := ndg_pos zz.natAbs; rw [show ndg zz.natAbs - 1 + 1 = ndg zz.natAbs by omega]; omega)) (fun c_3 => ?_)
      refine lv_iload hx hb dJ13_stringSize_95d88_33 (lv_at hl 1 rfl) ?_
      refine lv_iload_n hx hb dJ13_stringSize_95d88_35 rfl (lv_at hl 2 rfl) ?_
      refine kz_iadd hx hb dJ13_stringSize_95d88_36 ?_
      exact W.iret (v := iZ (((((ndg zz.natAbs - 1) : Nat) : Int) + 1) + 1)) hx hb hr (fun t ht hW => ⟨congrArg (fun z : Int => Outcome.returned (some (Value.int (iZ z)))) (show (((((ndg zz.natAbs - 1) : Nat) : Int) + 1) + 1) = (((TL zz : Nat) : Int)) from by have h8 := ndg_pos zz.natAbs; unfold TL; first | (rw [if_pos (by omega)]; omega) | (rw [if_neg (by omega)]; omega)), ht⟩) (fun q h => by cases h) dJ13_stringSize_95d88_37
    · refine lv_iload hx hb dJ13_stringSize_95d88_20 (lv_at hl 1 rfl) ?_
      refine lv_bipush (v := iZ 19) hx hb dJ13_stringSize_95d88_22 rfl ?_
      refine kz_icmp_ge (tgt := 50) hx hb (by first | omega | (have h8 := kpow13 (n := kk + 1) (by have := ndg_13 h0; omega); have h7 := ndg_13 h0; omega) | (have h8 := kpow13 (n := ndg zz.natAbs - 1 + 1) (by have := ndg_13 h0; have := ndg_pos zz.natAbs; omega); have h7 := ndg_13 h0; omega)) (by first | omega | (have h8 := kpow13 (n := kk + 1) (by have := ndg_13 h0; omega); have h7 := ndg_13 h0; omega) | (have h8 := kpow13 (n := ndg zz.natAbs - 1 + 1) (by have := ndg_13 h0; have := ndg_pos zz.natAbs; omega); have h7 := ndg_13 h0; omega)) dJ13_stringSize_95d88_24 (by decide) (fun c_4 => absurd c_4 (by have := ndg_13 h0; omega)) (fun c_4 => ?_)
      refine lv_lload_n hx hb dJ13_stringSize_95d88_27 rfl (lv_at hl 3 rfl) ?_
      refine lv_lload_n hx hb dJ13_stringSize_95d88_28 rfl (lv_at hl 0 rfl) ?_
      refine kz_lcmp_le (tgt := 38) hx hb (by first | omega | (have h8 := kpow13 (n := kk + 1) (by have := ndg_13 h0; omega); have h7 := ndg_13 h0; omega) | (have h8 := kpow13 (n := ndg zz.natAbs - 1 + 1) (by have := ndg_13 h0; have := ndg_pos zz.natAbs; omega); have h7 := ndg_13 h0; omega)) (by first | omega | (have h8 := kpow13 (n := kk + 1) (by have := ndg_13 h0; omega); have h7 := ndg_13 h0; omega) | (have h8 := kpow13 (n := ndg zz.natAbs - 1 + 1) (by have := ndg_13 h0; have := ndg_pos zz.natAbs; omega); have h7 := ndg_13 h0; omega)) dJ13_stringSize_95d88_29 dJ13_stringSize_95d88_30 (by decide) (fun c_5 => ?_) (fun c_5 => absurd c_5 (by have h7 := ndg_ge zz.natAbs (kk + 1) (by omega) (by omega); omega))
      refine lv_ldc2 (v := lZ 10) hx hb hown (hts _ (List.mem_cons_of_mem _ mw1276)) dJ13_stringSize_95d88_38 ?_
      refine lv_lload_n hx hb dJ13_stringSize_95d88_41 rfl (lv_at hl 0 rfl) ?_
      refine kz_lmul hx hb dJ13_stringSize_95d88_42 ?_
      refine lv_lstore_n (lv' := [(3, .long (lZ (10 * (-((10 ^ (kk + 1) : Nat) : Int))))), (5, .int (iZ (((kk : Nat) : Int) + 1))), (2, .int (iZ 1)), (0, .long (lZ (zz)))]) hx hb dJ13_stringSize_95d88_43 rfl hl (by decide) rfl (fun ls hl => ?_)
      refine lv_iinc (v := iZ ((((kk : Nat) : Int) + 1) + 1)) (lv' := [(5, .int (iZ ((((kk : Nat) : Int) + 1) + 1))), (3, .long (lZ (10 * (-((10 ^ (kk + 1) : Nat) : Int))))), (2, .int (iZ 1)), (0, .long (lZ (zz)))]) hx hb dJ13_stringSize_95d88_44 hl (k := 1) rfl (iZ_add _ _) (by decide) rfl (fun ls hl => ?_)
      refine lv_goto (tgt := 20) hx hb dJ13_stringSize_95d88_47 (by decide) ?_
      exact ih ls (by have h9 := lv_sub hl [1, 0, 2, 3] rfl; rw [show 10 * -((10 ^ (kk + 1) : Nat) : Int) = -((10 ^ (kk + 1 + 1) : Nat) : Int) from by rw [Nat.pow_succ (n := 10) (m := kk + 1)]; omega, show ((kk : Nat) : Int) + 1 + 1 = ((kk + 1 : Nat) : Int) + 1 from by omega] at h9; exact h9)
  · refine lv_iconst (v := iZ 0) hx hb dJ13_stringSize_95d88_8 rfl ?_
    refine lv_istore_n (lv' := [(2, .int (iZ 0)), (0, .long (lZ (zz)))]) hx hb dJ13_stringSize_95d88_9 rfl hl (by decide) rfl (fun ls hl => ?_)
    refine lv_lload_n hx hb dJ13_stringSize_95d88_10 rfl (lv_at hl 1 rfl) ?_
    refine kz_lneg hx hb dJ13_stringSize_95d88_11 ?_
    refine lv_lstore_n (lv' := [(0, .long (lZ (-zz))), (2, .int (iZ 0))]) hx hb dJ13_stringSize_95d88_12 rfl hl (by decide) rfl (fun ls hl => ?_)
    refine lv_ldc2 (v := lZ (-10)) hx hb hown (hts _ (List.mem_cons_of_mem _ mw1275)) dJ13_stringSize_95d88_13 ?_
    refine lv_lstore_n (lv' := [(3, .long (lZ ((-10)))), (0, .long (lZ (-zz))), (2, .int (iZ 0))]) hx hb dJ13_stringSize_95d88_16 rfl hl (by decide) rfl (fun ls hl => ?_)
    refine lv_iconst (v := iZ 1) hx hb dJ13_stringSize_95d88_17 rfl ?_
    refine lv_istore (lv' := [(5, .int (iZ 1)), (3, .long (lZ ((-10)))), (0, .long (lZ (-zz))), (2, .int (iZ 0))]) hx hb dJ13_stringSize_95d88_18 hl (by decide) rfl (fun ls hl => ?_)
    refine k_loop (W := fun ls => W p l e _ s m _ below meth c s.heap [] 0 0 _ (F0 m 20 ls [])) (I := fun (kk : Nat) ls => lv_has ls 6 [(3, .long (lZ (-((10 ^ (kk + 1) : Nat) : Int)))), (5, .int (iZ (((kk : Nat) : Int) + 1))), (0, .long (lZ (-zz))), (2, .int (iZ 0))]) (ndg zz.natAbs - 1) 0 (Nat.zero_le _) (by have h9 := (lv_sub hl [1, 0, 2, 3] rfl); exact h9) (fun ls hl => ?_) (fun kk ls hk hl ih => ?_)
    · refine lv_iload hx hb dJ13_stringSize_95d88_20 (lv_at hl 1 rfl) ?_
      refine lv_bipush (v := iZ 19) hx hb dJ13_stringSize_95d88_22 rfl ?_
      refine kz_icmp_ge (tgt := 50) hx hb (by first | omega | (have h8 := kpow13 (n := kk + 1) (by have := ndg_13 h0; omega); have h7 := ndg_13 h0; omega) | (have h8 := kpow13 (n := ndg zz.natAbs - 1 + 1) (by have := ndg_13 h0; have := ndg_pos zz.natAbs; omega); have h7 := ndg_13 h0; omega)) (by first | omega | (have h8 := kpow13 (n := kk + 1) (by have := ndg_13 h0; omega); have h7 := ndg_13 h0; omega) | (have h8 := kpow13 (n := ndg zz.natAbs - 1 + 1) (by have := ndg_13 h0; have := ndg_pos zz.natAbs; omega); have h7 := ndg_13 h0; omega)) dJ13_stringSize_95d88_24 (by decide) (fun c_6 => absurd c_6 (by have := ndg_13 h0; omega)) (fun c_6 => ?_)
      refine lv_lload_n hx hb dJ13_stringSize_95d88_27 rfl (lv_at hl 2 rfl) ?_
      refine lv_lload_n hx hb dJ13_stringSize_95d88_28 rfl (lv_at hl 0 rfl) ?_
      refine kz_lcmp_le (tgt := 38) hx hb (by first | omega | (have h8 := kpow13 (n := kk + 1) (by have := ndg_13 h0; omega); have h7 := ndg_13 h0; omega) | (have h8 := kpow13 (n := ndg zz.natAbs - 1 + 1) (by have := ndg_13 h0; have := ndg_pos zz.natAbs; omega); have h7 := ndg_13 h0; omega)) (by first | omega | (have h8 := kpow13 (n := kk + 1) (by have := ndg_13 h0; omega); have h7 := ndg_13 h0; omega) | (have h8 := kpow13 (n := ndg zz.natAbs - 1 + 1) (by have := ndg_13 h0; have := ndg_pos zz.natAbs; omega); have h7 := ndg_13 h0; omega)) dJ13_stringSize_95d88_29 dJ13_stringSize_95d88_30 (by decide) (fun c_7 => absurd c_7 (by have h7 := ndg_lt zz.natAbs; have h8 := ndg_pos zz.natAbs; rw [show ndg zz.natAbs - 1 + 1 = ndg zz.natAbs by omega]; omega)) (fun c_7 => ?_)
      refine lv_iload hx hb dJ13_stringSize_95d88_33 (lv_at hl 1 rfl) ?_
      refine lv_iload_n hx hb dJ13_stringSize_95d88_35 rfl (lv_at hl 3 rfl) ?_
      refine kz_iadd hx hb dJ13_stringSize_95d88_36 ?_
      exact W.iret (v := iZ (((((ndg zz.natAbs - 1) : Nat) : Int) + 1) + 0)) hx hb hr (fun t ht hW => ⟨congrArg (fun z : Int => Outcome.returned (some (Value.int (iZ z)))) (show (((((ndg zz.natAbs - 1) : Nat) : Int) + 1) + 0) = (((TL zz : Nat) : Int)) from by have h8 := ndg_pos zz.natAbs; unfold TL; first | (rw [if_pos (by omega)]; omega) | (rw [if_neg (by omega)]; omega)), ht⟩) (fun q h => by cases h) dJ13_stringSize_95d88_37
    · refine lv_iload hx hb dJ13_stringSize_95d88_20 (lv_at hl 1 rfl) ?_
      refine lv_bipush (v := iZ 19) hx hb dJ13_stringSize_95d88_22 rfl ?_
      refine kz_icmp_ge (tgt := 50) hx hb (by first | omega | (have h8 := kpow13 (n := kk + 1) (by have := ndg_13 h0; omega); have h7 := ndg_13 h0; omega) | (have h8 := kpow13 (n := ndg zz.natAbs - 1 + 1) (by have := ndg_13 h0; have := ndg_pos zz.natAbs; omega); have h7 := ndg_13 h0; omega)) (by first | omega | (have h8 := kpow13 (n := kk + 1) (by have := ndg_13 h0; omega); have h7 := ndg_13 h0; omega) | (have h8 := kpow13 (n := ndg zz.natAbs - 1 + 1) (by have := ndg_13 h0; have := ndg_pos zz.natAbs; omega); have h7 := ndg_13 h0; omega)) dJ13_stringSize_95d88_24 (by decide) (fun c_8 => absurd c_8 (by have := ndg_13 h0; omega)) (fun c_8 => ?_)
      refine lv_lload_n hx hb dJ13_stringSize_95d88_27 rfl (lv_at hl 2 rfl) ?_
      refine lv_lload_n hx hb dJ13_stringSize_95d88_28 rfl (lv_at hl 0 rfl) ?_
      refine kz_lcmp_le (tgt := 38) hx hb (by first | omega | (have h8 := kpow13 (n := kk + 1) (by have := ndg_13 h0; omega); have h7 := ndg_13 h0; omega) | (have h8 := kpow13 (n := ndg zz.natAbs - 1 + 1) (by have := ndg_13 h0; have := ndg_pos zz.natAbs; omega); have h7 := ndg_13 h0; omega)) (by first | omega | (have h8 := kpow13 (n := kk + 1) (by have := ndg_13 h0; omega); have h7 := ndg_13 h0; omega) | (have h8 := kpow13 (n := ndg zz.natAbs - 1 + 1) (by have := ndg_13 h0; have := ndg_pos zz.natAbs; omega); have h7 := ndg_13 h0; omega)) dJ13_stringSize_95d88_29 dJ13_stringSize_95d88_30 (by decide) (fun c_9 => ?_) (fun c_9 => absurd c_9 (by have h7 := ndg_ge zz.natAbs (kk + 1) (by omega) (by omega); omega))
      refine lv_ldc2 (v := lZ 10) hx hb hown (hts _ (List.mem_cons_of_mem _ mw1276)) dJ13_stringSize_95d88_38 ?_
      refine lv_lload_n hx hb dJ13_stringSize_95d88_41 rfl (lv_at hl 0 rfl) ?_
      refine kz_lmul hx hb dJ13_stringSize_95d88_42 ?_
      refine lv_lstore_n (lv' := [(3, .long (lZ (10 * (-((10 ^ (kk + 1) : Nat) : Int))))), (5, .int (iZ (((kk : Nat) : Int) + 1))), (0, .long (lZ (-zz))), (2, .int (iZ 0))]) hx hb dJ13_stringSize_95d88_43 rfl hl (by decide) rfl (fun ls hl => ?_)
      refine lv_iinc (v := iZ ((((kk : Nat) : Int) + 1) + 1)) (lv' := [(5, .int (iZ ((((kk : Nat) : Int) + 1) + 1))), (3, .long (lZ (10 * (-((10 ^ (kk + 1) : Nat) : Int))))), (0, .long (lZ (-zz))), (2, .int (iZ 0))]) hx hb dJ13_stringSize_95d88_44 hl (k := 1) rfl (iZ_add _ _) (by decide) rfl (fun ls hl => ?_)
      refine lv_goto (tgt := 20) hx hb dJ13_stringSize_95d88_47 (by decide) ?_
      exact ih ls (by have h9 := lv_sub hl [1, 0, 2, 3] rfl; rw [show 10 * -((10 ^ (kk + 1) : Nat) : Int) = -((10 ^ (kk + 1 + 1) : Nat) : Int) from by rw [Nat.pow_succ (n := 10) (m := kk + 1)]; omega, show ((kk : Nat) : Int) + 1 + 1 = ((kk + 1 : Nat) : Int) + 1 from by omega] at h9; exact h9)

theorem gtcast {z : Int} {g : Nat → Int} {i1 i2 j1 j2 : Nat} {v1 v2 : Int} {c : Nat} (h : GT z (gu (gu g i1 v1) i2 v2) c) (e1 : i1 = j1) (e2 : i2 = j2) : GT z (gu (gu g j1 v1) j2 v2) c := e1 ▸ e2 ▸ h
/-- the builder holds the text of z from its first byte on (how many letters it counts: n) -/
def gWt (dC : Nat → ClassId) (dI : Nat → Nat → Nat) (dA : Nat → ClassId) (b v : Nat) (z : Int) (n : Nat) (H : Heap) : Prop := ∃ g : Nat → Int, kG g ∧ (∀ j, j < TL z → g j = TX z j) ∧ gW dC dI dA b v g n H
abbrev ww_J13_getChars_11360 : List Cond := .code yJ13_getChars_11360 cJ13_getChars_11360 11 (some .int) :: gT
set_option maxHeartbeats 4000000 in
set_option maxRecDepth 100000 in
theorem c_J13_getChars_11360 (l : Launch) (dC : Nat → ClassId) (dI : Nat → Nat → Nat) (dA : Nat → ClassId) (k : Nat → Nat) (b v : Nat) (g : Nat → Int) (tm : Int32) (n : Nat) (H0 : Heap) (hP : va_P (dC, dI) vwCl (kW b v dA g tm n) H0) (htm : tm = 0 ∨ tm = 1) (hbv : b ≠ v) (hkb : k 0 ≤ b) (hkv : k 0 ≤ v) (hg : kG g) (hn : n ≤ 16) (zz : Int) (h0 : zz.natAbs < 10000000000000) : Met l yJ13_getChars_11360 ww_J13_getChars_11360 ({ frames := 0, cells := 0, slots := 0, locals := 0 }) (va_Pc [.long (lZ (zz)), .int (iZ (((TL zz : Nat) : Int))), .ref v] (fun U => U.heap = H0 ∧ kMJ dC dI dA k U)) (kQ2 (some (.int (iZ 0))) (gWt dC dI dA b v zz n) (kAB b v H0.size)) 0 0 (kAB b v H0.size) := by
  refine va_MetF (cc := cJ13_getChars_11360) (maxL := 11) (ret := (some .int)) (by decide +kernel) rfl ?_
  intro p e s m args below meth c s₁ B hml hv
  obtain ⟨rfl, hH, hM⟩ := hv
  subst hH
  have hAN : ∀ a, kAB b v s.heap.size a → k 0 ≤ a := kAB_N hkb hkv hM.1.2.1.1
  have hS : va_S (kAB b v s.heap.size) s.heap s.heap [] := va_S.rf
  have hD : va_D (kAB b v s.heap.size) ([(b, .inr (1, [.ref v, .int 0, .int tm, .int (iZ (((n : Nat) : Int)))])), (v, .inl (dA 2, 16, .inl (fun j => iZ (g j))))] : va_W) := kW_D hbv
  have hP : va_P (dC, dI) vwCl ([(b, .inr (1, [.ref v, .int 0, .int tm, .int (iZ (((n : Nat) : Int)))])), (v, .inl (dA 2, 16, .inl (fun j => iZ (g j))))] : va_W) s.heap := hP
  have hL := TL_rng h0
  have hd := ndg_13 h0
  have hp := ndg_pos zz.natAbs
  have hTL : TL zz = ndg zz.natAbs ∨ TL zz = ndg zz.natAbs + 1 := by unfold TL; split <;> omega
  have hKP : 2 * KP zz.natAbs + 1 ≤ ndg zz.natAbs ∧ ndg zz.natAbs ≤ 2 * KP zz.natAbs + 2 := by unfold KP; omega
  have hK1 := K1_KP zz.natAbs
  have hz0 : ((zz.natAbs : Nat) : Int) < 10000000000000 := by omega
  have hx := B.exec
  have hb := B.bytes
  have hr9 := B.returns
  have hts := atoms_spec (ws := ww_J13_getChars_11360) B.pre
  have hown : s.vm.findClass RJ13 = some m.cls := findClass_of_methodNamed B.named
  have hlocks := B.notSynchronized
  have hl := lv_entry ([.long (lZ (zz)), .int (iZ (((TL zz : Nat) : Int))), .ref v]) (n := 11) (Nat.le_of_ble_eq_true rfl)
  rw [lg_entry_eq]
  generalize (lg_sl ([.long (lZ (zz)), .int (iZ (((TL zz : Nat) : Int))), .ref v]) ++ List.replicate (11 - (lg_sl ([.long (lZ (zz)), .int (iZ (((TL zz : Nat) : Int))), .ref v])).length) Slot.unset).toArray = ls at hl ⊢
  have hl : lv_has ls 11 [(0, .long (lZ (zz))), (2, .int (iZ (((TL zz : Nat) : Int)))), (3, .ref v)] := hl
  refine lv_iload_n hx hb dJ13_getChars_11360_0 rfl (lv_at hl 1 rfl) ?_
  refine lv_istore (lv' := [(7, .int (iZ (((TL zz : Nat) : Int)))), (0, .long (lZ (zz))), (2, .int (iZ (((TL zz : Nat) : Int)))), (3, .ref v)]) hx hb dJ13_getChars_11360_1 hl (by decide) rfl (fun ls hl => ?_)
  refine lv_lload_n hx hb dJ13_getChars_11360_3 rfl (lv_at hl 1 rfl) ?_
  refine lv_lconst (v := lZ 0) hx hb dJ13_getChars_11360_4 rfl ?_
  refine kz_lcmp_ge (tgt := 13) hx hb (by omega) (by omega) dJ13_getChars_11360_5 dJ13_getChars_11360_6 (by decide) (fun c_1 => ?_) (fun c_1 => ?_)
  · have hTLs : TL zz = ndg zz.natAbs := by unfold TL; split <;> omega
    refine lv_iconst (v := iZ 0) hx hb dJ13_getChars_11360_13 rfl ?_
    refine lv_istore (lv' := [(8, .int (iZ 0)), (7, .int (iZ (((TL zz : Nat) : Int)))), (0, .long (lZ (zz))), (2, .int (iZ (((TL zz : Nat) : Int)))), (3, .ref v)]) hx hb dJ13_getChars_11360_14 hl (by decide) rfl (fun ls hl => ?_)
    refine lv_iload hx hb dJ13_getChars_11360_16 (lv_at hl 0 rfl) ?_
    refine kz_if_ne (tgt := 24) hx hb (by omega) dJ13_getChars_11360_18 (by decide) (fun c_2 => absurd c_2 (by omega)) (fun c_2 => ?_)
    refine lv_lload_n hx hb dJ13_getChars_11360_21 rfl (lv_at hl 2 rfl) ?_
    refine kz_lneg hx hb dJ13_getChars_11360_22 ?_
    refine lv_lstore_n (lv' := [(0, .long (lZ (-zz))), (8, .int (iZ 0)), (7, .int (iZ (((TL zz : Nat) : Int)))), (2, .int (iZ (((TL zz : Nat) : Int)))), (3, .ref v)]) hx hb dJ13_getChars_11360_23 rfl hl (by decide) rfl (fun ls hl => ?_)
    refine k_loop3 (W := fun (H : Heap) (locs : List Loc) (ls : Array Slot) => W p l e _ s m _ below meth c H locs _ _ _ (F0 m 24 ls [])) (fun (kk : Nat) (H : Heap) (locs : List Loc) (ls : Array Slot) => lv_has ls 11 [(0, .long (lZ (-((Aq zz.natAbs (kk) : Nat) : Int)))), (7, .int (iZ (((TL zz - 2 * (kk) : Nat) : Int)))), (8, .int (iZ 0)), (2, .int (iZ (((TL zz : Nat) : Int)))), (3, .ref v)] ∧ (∃ g9 : Nat → Int, kG g9 ∧ GT zz g9 (TL zz - 2 * (kk)) ∧ va_P (dC, dI) vwCl ([(b, .inr (1, [.ref v, .int 0, .int tm, .int (iZ (((n : Nat) : Int)))])), (v, .inl (dA 2, 16, .inl (fun j => iZ (g9 j))))] : va_W) H) ∧ va_S (kAB b v s.heap.size) s.heap H locs) (K1 zz.natAbs) 0 (Nat.zero_le _) ⟨by have h9 := lv_sub hl [0, 2, 1, 3, 4] rfl; rw [show Value.long (lZ (-zz)) = Value.long (lZ (-((Aq zz.natAbs 0 : Nat) : Int))) from by rw [show -((Aq zz.natAbs 0 : Nat) : Int) = -zz from by show -((zz.natAbs : Nat) : Int) = _; omega]] at h9; exact h9, ⟨_, hg, (by exact GT_0 zz g), hP⟩, hS⟩ (fun H locs ls hI => ?_) (fun kk H locs ls hk hI ih => ?_)
    · obtain ⟨hl, ⟨g_3, hg_g_3, ht_g_3, hP⟩, hS⟩ := hI
      have hD : va_D (kAB b v s.heap.size) ([(b, .inr (1, [.ref v, .int 0, .int tm, .int (iZ (((n : Nat) : Int)))])), (v, .inl (dA 2, 16, .inl (fun j => iZ (g_3 j))))] : va_W) := kW_D hbv
      have hq := Aq_le zz.natAbs (K1 zz.natAbs)
      have hlt := K1_lt h0
      refine lv_lload_n hx hb dJ13_getChars_11360_24 rfl (lv_at hl 0 rfl) ?_
      refine lv_ldc2 (v := lZ (-2147483648)) hx hb hown (hts _ (List.mem_cons_of_mem _ mw1280)) dJ13_getChars_11360_25 ?_
      refine kz_lcmp_gt (tgt := 82) hx hb (by omega) (by omega) dJ13_getChars_11360_28 dJ13_getChars_11360_29 (by decide) (fun c_4 => ?_) (fun c_4 => absurd c_4 (by omega))
      refine lv_lload_n hx hb dJ13_getChars_11360_82 rfl (lv_at hl 0 rfl) ?_
      refine kz_l2i hx hb dJ13_getChars_11360_83 ?_
      refine lv_istore (lv' := [(10, .int (iZ (-((Aq zz.natAbs ((K1 zz.natAbs)) : Nat) : Int)))), (0, .long (lZ (-((Aq zz.natAbs ((K1 zz.natAbs)) : Nat) : Int)))), (7, .int (iZ (((TL zz - 2 * ((K1 zz.natAbs)) : Nat) : Int)))), (8, .int (iZ 0)), (2, .int (iZ (((TL zz : Nat) : Int)))), (3, .ref v)]) hx hb dJ13_getChars_11360_84 hl (by decide) rfl (fun ls hl => ?_)
      refine k_loop3 (W := fun (H : Heap) (locs : List Loc) (ls : Array Slot) => W p l e _ s m _ below meth c H locs _ _ _ (F0 m 86 ls [])) (fun (kk : Nat) (H : Heap) (locs : List Loc) (ls : Array Slot) => lv_has ls 11 [(10, .int (iZ (-((Aq zz.natAbs (K1 zz.natAbs + kk) : Nat) : Int)))), (7, .int (iZ (((TL zz - 2 * (K1 zz.natAbs + kk) : Nat) : Int)))), (8, .int (iZ 0)), (2, .int (iZ (((TL zz : Nat) : Int)))), (3, .ref v)] ∧ (∃ g9 : Nat → Int, kG g9 ∧ GT zz g9 (TL zz - 2 * (K1 zz.natAbs + kk)) ∧ va_P (dC, dI) vwCl ([(b, .inr (1, [.ref v, .int 0, .int tm, .int (iZ (((n : Nat) : Int)))])), (v, .inl (dA 2, 16, .inl (fun j => iZ (g9 j))))] : va_W) H) ∧ va_S (kAB b v s.heap.size) s.heap H locs) (KP zz.natAbs - K1 zz.natAbs) 0 (Nat.zero_le _) ⟨by have h9 := lv_sub hl [0, 2, 3, 4, 5] rfl; exact h9, ⟨_, hg_g_3, ht_g_3, hP⟩, hS⟩ (fun H locs ls hI => ?_) (fun kk H locs ls hk hI ih => ?_)
      · obtain ⟨hl, ⟨g_5, hg_g_5, ht_g_5, hP⟩, hS⟩ := hI
        have hD : va_D (kAB b v s.heap.size) ([(b, .inr (1, [.ref v, .int 0, .int tm, .int (iZ (((n : Nat) : Int)))])), (v, .inl (dA 2, 16, .inl (fun j => iZ (g_5 j))))] : va_W) := kW_D hbv
        have hkk : K1 zz.natAbs + (KP zz.natAbs - K1 zz.natAbs) = KP zz.natAbs := by omega
        rw [hkk] at hl ht_g_5
        have hlt := Aq_lt (a := zz.natAbs)
        have h10 := Aq_10 (a := zz.natAbs)
        refine lv_iload hx hb dJ13_getChars_11360_86 (lv_at hl 0 rfl) ?_
        refine lv_bipush (v := iZ (-100)) hx hb dJ13_getChars_11360_88 rfl ?_
        refine kz_icmp_gt (tgt := 143) hx hb (by omega) (by omega) dJ13_getChars_11360_90 (by decide) (fun c_6 => ?_) (fun c_6 => absurd c_6 (by omega))
        refine lv_aload_n hx hb dJ13_getChars_11360_143 rfl (lv_at hl 4 rfl) ?_
        refine lv_iinc (v := iZ ((((TL zz - 2 * (KP zz.natAbs) : Nat) : Int)) - 1)) (lv' := [(7, .int (iZ ((((TL zz - 2 * (KP zz.natAbs) : Nat) : Int)) - 1))), (10, .int (iZ (-((Aq zz.natAbs (KP zz.natAbs) : Nat) : Int)))), (8, .int (iZ 0)), (2, .int (iZ (((TL zz : Nat) : Int)))), (3, .ref v)]) hx hb dJ13_getChars_11360_144 hl (k := 1) rfl (by rw [show Int32.ofInt (-1) = iZ (-1) from rfl, iZ_add]; exact congrArg iZ (by omega)) (by decide) rfl (fun ls hl => ?_)
        refine lv_iload hx hb dJ13_getChars_11360_147 (lv_at hl 0 rfl) ?_
        refine va_gets (v := .ref (k 5)) hx hb hM.2.2.1 (kSN hS hAN) hown (hts _ (List.mem_cons_of_mem _ mw1282)) (fun _ h9 => h9) dJ13_getChars_11360_149 ?_
        refine lv_iload hx hb dJ13_getChars_11360_152 (lv_at hl 1 rfl) ?_
        refine kz_ineg hx hb dJ13_getChars_11360_154 ?_
        refine kz_btab (v := 48 + ((-(-((Aq zz.natAbs (KP zz.natAbs) : Nat) : Int)))) % 10) hx hb hM.2.2.2.1 (kSN hS hAN) (by omega) (by decide) (kdig_5 (by omega)) dJ13_getChars_11360_155 ?_
        refine kz_bast hx hb hM.1.1 hP hD hS 1 rfl (by omega) (by omega) (by omega) dJ13_getChars_11360_156 (fun H locs hP hD hS => ?_)
        have hP : va_P (dC, dI) vwCl ([(b, .inr (1, [.ref v, .int 0, .int tm, .int (iZ (((n : Nat) : Int)))])), (v, .inl (dA 2, 16, .inl (fun j => iZ ((gu g_5 (((((TL zz - 2 * (KP zz.natAbs) : Nat) : Int)) - 1)).toNat ((48 + ((-(-((Aq zz.natAbs (KP zz.natAbs) : Nat) : Int)))) % 10))) j))))] : va_W) _ := hP
        have hD : va_D (kAB b v s.heap.size) ([(b, .inr (1, [.ref v, .int 0, .int tm, .int (iZ (((n : Nat) : Int)))])), (v, .inl (dA 2, 16, .inl (fun j => iZ ((gu g_5 (((((TL zz - 2 * (KP zz.natAbs) : Nat) : Int)) - 1)).toNat ((48 + ((-(-((Aq zz.natAbs (KP zz.natAbs) : Nat) : Int)))) % 10))) j))))] : va_W) := hD
        refine lv_iload hx hb dJ13_getChars_11360_157 (lv_at hl 1 rfl) ?_
        refine lv_bipush (v := iZ (-9)) hx hb dJ13_getChars_11360_159 rfl ?_
        refine kz_icmp_ge (tgt := 178) hx hb (by omega) (by omega) dJ13_getChars_11360_161 (by decide) (fun c_7 => ?_) (fun c_7 => ?_)
        · refine lv_iload hx hb dJ13_getChars_11360_178 (lv_at hl 2 rfl) ?_
          refine kz_if_eq (tgt := 192) hx hb (by omega) dJ13_getChars_11360_180 (by decide) (fun c_8 => ?_) (fun c_8 => absurd c_8 (by omega))
          refine lv_iload hx hb dJ13_getChars_11360_192 (lv_at hl 0 rfl) ?_
          exact W.iret (v := iZ ((((TL zz - 2 * (KP zz.natAbs) : Nat) : Int)) - 1)) hx hb hr9 (fun t ht hW => ⟨⟨congrArg (fun z : Int => Outcome.returned (some (Value.int (iZ z)))) (show ((((TL zz - 2 * (KP zz.natAbs) : Nat) : Int)) - 1) = 0 from by omega), ⟨_, (kG_gu (i := (((((TL zz - 2 * (KP zz.natAbs) : Nat) : Int)) - 1)).toNat) (c := ((48 + ((-(-((Aq zz.natAbs (KP zz.natAbs) : Nat) : Int)))) % 10))) hg_g_5 (by omega)), fun j hj => (GT_step (i := (((((TL zz - 2 * (KP zz.natAbs) : Nat) : Int)) - 1)).toNat) ht_g_5 (by omega) (by rw [TX_o (k := KP zz.natAbs) (by omega) (by omega)]; omega)) j (by omega) hj, _, htm, by rw [ht]; exact hP⟩⟩, hS.F ht⟩) hS.2.2 dJ13_getChars_11360_194
        · refine lv_aload_n hx hb dJ13_getChars_11360_164 rfl (lv_at hl 4 rfl) ?_
          refine lv_iinc (v := iZ (((((TL zz - 2 * (KP zz.natAbs) : Nat) : Int)) - 1) - 1)) (lv' := [(7, .int (iZ (((((TL zz - 2 * (KP zz.natAbs) : Nat) : Int)) - 1) - 1))), (10, .int (iZ (-((Aq zz.natAbs (KP zz.natAbs) : Nat) : Int)))), (8, .int (iZ 0)), (2, .int (iZ (((TL zz : Nat) : Int)))), (3, .ref v)]) hx hb dJ13_getChars_11360_165 hl (k := 0) rfl (by rw [show Int32.ofInt (-1) = iZ (-1) from rfl, iZ_add]; exact congrArg iZ (by omega)) (by decide) rfl (fun ls hl => ?_)
          refine lv_iload hx hb dJ13_getChars_11360_168 (lv_at hl 0 rfl) ?_
          refine va_gets (v := .ref (k 6)) hx hb hM.2.2.2.2.1 (kSN hS hAN) hown (hts _ (List.mem_cons_of_mem _ mw1283)) (fun _ h9 => h9) dJ13_getChars_11360_170 ?_
          refine lv_iload hx hb dJ13_getChars_11360_173 (lv_at hl 1 rfl) ?_
          refine kz_ineg hx hb dJ13_getChars_11360_175 ?_
          refine kz_btab (v := 48 + ((-(-((Aq zz.natAbs (KP zz.natAbs) : Nat) : Int)))) / 10) hx hb hM.2.2.2.2.2.1 (kSN hS hAN) (by omega) (by decide) (kdig_6 (by omega)) dJ13_getChars_11360_176 ?_
          refine kz_bast hx hb hM.1.1 hP hD hS 1 rfl (by omega) (by omega) (by omega) dJ13_getChars_11360_177 (fun H locs hP hD hS => ?_)
          have hP : va_P (dC, dI) vwCl ([(b, .inr (1, [.ref v, .int 0, .int tm, .int (iZ (((n : Nat) : Int)))])), (v, .inl (dA 2, 16, .inl (fun j => iZ ((gu (gu g_5 (((((TL zz - 2 * (KP zz.natAbs) : Nat) : Int)) - 1)).toNat ((48 + ((-(-((Aq zz.natAbs (KP zz.natAbs) : Nat) : Int)))) % 10))) ((((((TL zz - 2 * (KP zz.natAbs) : Nat) : Int)) - 1) - 1)).toNat ((48 + ((-(-((Aq zz.natAbs (KP zz.natAbs) : Nat) : Int)))) / 10))) j))))] : va_W) _ := hP
          have hD : va_D (kAB b v s.heap.size) ([(b, .inr (1, [.ref v, .int 0, .int tm, .int (iZ (((n : Nat) : Int)))])), (v, .inl (dA 2, 16, .inl (fun j => iZ ((gu (gu g_5 (((((TL zz - 2 * (KP zz.natAbs) : Nat) : Int)) - 1)).toNat ((48 + ((-(-((Aq zz.natAbs (KP zz.natAbs) : Nat) : Int)))) % 10))) ((((((TL zz - 2 * (KP zz.natAbs) : Nat) : Int)) - 1) - 1)).toNat ((48 + ((-(-((Aq zz.natAbs (KP zz.natAbs) : Nat) : Int)))) / 10))) j))))] : va_W) := hD
          refine lv_iload hx hb dJ13_getChars_11360_178 (lv_at hl 2 rfl) ?_
          refine kz_if_eq (tgt := 192) hx hb (by omega) dJ13_getChars_11360_180 (by decide) (fun c_9 => ?_) (fun c_9 => absurd c_9 (by omega))
          refine lv_iload hx hb dJ13_getChars_11360_192 (lv_at hl 0 rfl) ?_
          exact W.iret (v := iZ (((((TL zz - 2 * (KP zz.natAbs) : Nat) : Int)) - 1) - 1)) hx hb hr9 (fun t ht hW => ⟨⟨congrArg (fun z : Int => Outcome.returned (some (Value.int (iZ z)))) (show (((((TL zz - 2 * (KP zz.natAbs) : Nat) : Int)) - 1) - 1) = 0 from by omega), ⟨_, (kG_gu (i := ((((((TL zz - 2 * (KP zz.natAbs) : Nat) : Int)) - 1) - 1)).toNat) (c := ((48 + ((-(-((Aq zz.natAbs (KP zz.natAbs) : Nat) : Int)))) / 10))) (kG_gu (i := (((((TL zz - 2 * (KP zz.natAbs) : Nat) : Int)) - 1)).toNat) (c := ((48 + ((-(-((Aq zz.natAbs (KP zz.natAbs) : Nat) : Int)))) % 10))) hg_g_5 (by omega)) (by omega)), fun j hj => (GT_step (i := ((((((TL zz - 2 * (KP zz.natAbs) : Nat) : Int)) - 1) - 1)).toNat) (GT_step (i := (((((TL zz - 2 * (KP zz.natAbs) : Nat) : Int)) - 1)).toNat) ht_g_5 (by omega) (by rw [TX_o (k := KP zz.natAbs) (by omega) (by omega)]; omega)) (by omega) (by rw [TX_t (k := KP zz.natAbs) (by omega) (by omega)]; omega)) j (by omega) hj, _, htm, by rw [ht]; exact hP⟩⟩, hS.F ht⟩) hS.2.2 dJ13_getChars_11360_194
      · obtain ⟨hl, ⟨g_10, hg_g_10, ht_g_10, hP⟩, hS⟩ := hI
        have hD : va_D (kAB b v s.heap.size) ([(b, .inr (1, [.ref v, .int 0, .int tm, .int (iZ (((n : Nat) : Int)))])), (v, .inl (dA 2, 16, .inl (fun j => iZ (g_10 j))))] : va_W) := kW_D hbv
        have hq := Aq_mono zz.natAbs (K1 zz.natAbs) kk
        have hlt := K1_lt h0
        have hge2 := Aq_ge (a := zz.natAbs) (k := K1 zz.natAbs + kk) (by omega)
        have hqs : Aq zz.natAbs (K1 zz.natAbs + (kk + 1)) = Aq zz.natAbs (K1 zz.natAbs + kk) / 100 := rfl
        refine lv_iload hx hb dJ13_getChars_11360_86 (lv_at hl 0 rfl) ?_
        refine lv_bipush (v := iZ (-100)) hx hb dJ13_getChars_11360_88 rfl ?_
        refine kz_icmp_gt (tgt := 143) hx hb (by omega) (by omega) dJ13_getChars_11360_90 (by decide) (fun c_11 => absurd c_11 (by omega)) (fun c_11 => ?_)
        refine lv_iload hx hb dJ13_getChars_11360_93 (lv_at hl 0 rfl) ?_
        refine lv_bipush (v := iZ 100) hx hb dJ13_getChars_11360_95 rfl ?_
        refine kz_idiv hx hb (by omega) (by omega) dJ13_getChars_11360_97 ?_
        refine W.eq (g2 := F0 m 98 ls [.int (iZ (-((Aq zz.natAbs (K1 zz.natAbs + (kk + 1)) : Nat) : Int)))]) (by rw [show (tq (-((Aq zz.natAbs (K1 zz.natAbs + kk) : Nat) : Int)) 100) = -((Aq zz.natAbs (K1 zz.natAbs + (kk + 1)) : Nat) : Int) from tq_n100 _]; try rfl) ?_
        refine lv_istore (lv' := [(9, .int (iZ (-((Aq zz.natAbs (K1 zz.natAbs + (kk + 1)) : Nat) : Int)))), (10, .int (iZ (-((Aq zz.natAbs (K1 zz.natAbs + kk) : Nat) : Int)))), (7, .int (iZ (((TL zz - 2 * (K1 zz.natAbs + kk) : Nat) : Int)))), (8, .int (iZ 0)), (2, .int (iZ (((TL zz : Nat) : Int)))), (3, .ref v)]) hx hb dJ13_getChars_11360_98 hl (by decide) rfl (fun ls hl => ?_)
        refine lv_iload hx hb dJ13_getChars_11360_100 (lv_at hl 0 rfl) ?_
        refine lv_bipush (v := iZ 100) hx hb dJ13_getChars_11360_102 rfl ?_
        refine kz_imul hx hb dJ13_getChars_11360_104 ?_
        refine lv_iload hx hb dJ13_getChars_11360_105 (lv_at hl 1 rfl) ?_
        refine kz_isub hx hb dJ13_getChars_11360_107 ?_
        refine W.eq (g2 := F0 m 108 ls [.int (iZ (((Aq zz.natAbs (K1 zz.natAbs + kk) % 100 : Nat) : Int)))]) (by rw [show (((-((Aq zz.natAbs (K1 zz.natAbs + (kk + 1)) : Nat) : Int)) * 100) - (-((Aq zz.natAbs (K1 zz.natAbs + kk) : Nat) : Int))) = ((Aq zz.natAbs (K1 zz.natAbs + kk) % 100 : Nat) : Int) from by omega]; try rfl) ?_
        refine lv_istore (lv' := [(6, .int (iZ (((Aq zz.natAbs (K1 zz.natAbs + kk) % 100 : Nat) : Int)))), (9, .int (iZ (-((Aq zz.natAbs (K1 zz.natAbs + (kk + 1)) : Nat) : Int)))), (10, .int (iZ (-((Aq zz.natAbs (K1 zz.natAbs + kk) : Nat) : Int)))), (7, .int (iZ (((TL zz - 2 * (K1 zz.natAbs + kk) : Nat) : Int)))), (8, .int (iZ 0)), (2, .int (iZ (((TL zz : Nat) : Int)))), (3, .ref v)]) hx hb dJ13_getChars_11360_108 hl (by decide) rfl (fun ls hl => ?_)
        refine lv_iload hx hb dJ13_getChars_11360_110 (lv_at hl 1 rfl) ?_
        refine lv_istore (lv' := [(10, .int (iZ (-((Aq zz.natAbs (K1 zz.natAbs + (kk + 1)) : Nat) : Int)))), (6, .int (iZ (((Aq zz.natAbs (K1 zz.natAbs + kk) % 100 : Nat) : Int)))), (9, .int (iZ (-((Aq zz.natAbs (K1 zz.natAbs + (kk + 1)) : Nat) : Int)))), (7, .int (iZ (((TL zz - 2 * (K1 zz.natAbs + kk) : Nat) : Int)))), (8, .int (iZ 0)), (2, .int (iZ (((TL zz : Nat) : Int)))), (3, .ref v)]) hx hb dJ13_getChars_11360_112 hl (by decide) rfl (fun ls hl => ?_)
        refine lv_aload_n hx hb dJ13_getChars_11360_114 rfl (lv_at hl 6 rfl) ?_
        refine lv_iinc (v := iZ ((((TL zz - 2 * (K1 zz.natAbs + kk) : Nat) : Int)) - 1)) (lv' := [(7, .int (iZ ((((TL zz - 2 * (K1 zz.natAbs + kk) : Nat) : Int)) - 1))), (10, .int (iZ (-((Aq zz.natAbs (K1 zz.natAbs + (kk + 1)) : Nat) : Int)))), (6, .int (iZ (((Aq zz.natAbs (K1 zz.natAbs + kk) % 100 : Nat) : Int)))), (9, .int (iZ (-((Aq zz.natAbs (K1 zz.natAbs + (kk + 1)) : Nat) : Int)))), (8, .int (iZ 0)), (2, .int (iZ (((TL zz : Nat) : Int)))), (3, .ref v)]) hx hb dJ13_getChars_11360_115 hl (k := 3) rfl (by rw [show Int32.ofInt (-1) = iZ (-1) from rfl, iZ_add]; exact congrArg iZ (by omega)) (by decide) rfl (fun ls hl => ?_)
        refine lv_iload hx hb dJ13_getChars_11360_118 (lv_at hl 0 rfl) ?_
        refine va_gets (v := .ref (k 5)) hx hb hM.2.2.1 (kSN hS hAN) hown (hts _ (List.mem_cons_of_mem _ mw1282)) (fun _ h9 => h9) dJ13_getChars_11360_120 ?_
        refine lv_iload hx hb dJ13_getChars_11360_123 (lv_at hl 2 rfl) ?_
        refine kz_btab (v := 48 + ((((Aq zz.natAbs (K1 zz.natAbs + kk) % 100 : Nat) : Int))) % 10) hx hb hM.2.2.2.1 (kSN hS hAN) (by omega) (by decide) (kdig_5 (by omega)) dJ13_getChars_11360_125 ?_
        refine kz_bast hx hb hM.1.1 hP hD hS 1 rfl (by omega) (by omega) (by omega) dJ13_getChars_11360_126 (fun H locs hP hD hS => ?_)
        have hP : va_P (dC, dI) vwCl ([(b, .inr (1, [.ref v, .int 0, .int tm, .int (iZ (((n : Nat) : Int)))])), (v, .inl (dA 2, 16, .inl (fun j => iZ ((gu g_10 (((((TL zz - 2 * (K1 zz.natAbs + kk) : Nat) : Int)) - 1)).toNat ((48 + ((((Aq zz.natAbs (K1 zz.natAbs + kk) % 100 : Nat) : Int))) % 10))) j))))] : va_W) _ := hP
        have hD : va_D (kAB b v s.heap.size) ([(b, .inr (1, [.ref v, .int 0, .int tm, .int (iZ (((n : Nat) : Int)))])), (v, .inl (dA 2, 16, .inl (fun j => iZ ((gu g_10 (((((TL zz - 2 * (K1 zz.natAbs + kk) : Nat) : Int)) - 1)).toNat ((48 + ((((Aq zz.natAbs (K1 zz.natAbs + kk) % 100 : Nat) : Int))) % 10))) j))))] : va_W) := hD
        refine lv_aload_n hx hb dJ13_getChars_11360_127 rfl (lv_at hl 6 rfl) ?_
        refine lv_iinc (v := iZ (((((TL zz - 2 * (K1 zz.natAbs + kk) : Nat) : Int)) - 1) - 1)) (lv' := [(7, .int (iZ (((((TL zz - 2 * (K1 zz.natAbs + kk) : Nat) : Int)) - 1) - 1))), (10, .int (iZ (-((Aq zz.natAbs (K1 zz.natAbs + (kk + 1)) : Nat) : Int)))), (6, .int (iZ (((Aq zz.natAbs (K1 zz.natAbs + kk) % 100 : Nat) : Int)))), (9, .int (iZ (-((Aq zz.natAbs (K1 zz.natAbs + (kk + 1)) : Nat) : Int)))), (8, .int (iZ 0)), (2, .int (iZ (((TL zz : Nat) : Int)))), (3, .ref v)]) hx hb dJ13_getChars_11360_128 hl (k := 0) rfl (by rw [show Int32.ofInt (-1) = iZ (-1) from rfl, iZ_add]; exact congrArg iZ (by omega)) (by decide) rfl (fun ls hl => ?_)
        refine lv_iload hx hb dJ13_getChars_11360_131 (lv_at hl 0 rfl) ?_
        refine va_gets (v := .ref (k 6)) hx hb hM.2.2.2.2.1 (kSN hS hAN) hown (hts _ (List.mem_cons_of_mem _ mw1283)) (fun _ h9 => h9) dJ13_getChars_11360_133 ?_
        refine lv_iload hx hb dJ13_getChars_11360_136 (lv_at hl 2 rfl) ?_
        refine kz_btab (v := 48 + ((((Aq zz.natAbs (K1 zz.natAbs + kk) % 100 : Nat) : Int))) / 10) hx hb hM.2.2.2.2.2.1 (kSN hS hAN) (by omega) (by decide) (kdig_6 (by omega)) dJ13_getChars_11360_138 ?_
        refine kz_bast hx hb hM.1.1 hP hD hS 1 rfl (by omega) (by omega) (by omega) dJ13_getChars_11360_139 (fun H locs hP hD hS => ?_)
        have hP : va_P (dC, dI) vwCl ([(b, .inr (1, [.ref v, .int 0, .int tm, .int (iZ (((n : Nat) : Int)))])), (v, .inl (dA 2, 16, .inl (fun j => iZ ((gu (gu g_10 (((((TL zz - 2 * (K1 zz.natAbs + kk) : Nat) : Int)) - 1)).toNat ((48 + ((((Aq zz.natAbs (K1 zz.natAbs + kk) % 100 : Nat) : Int))) % 10))) ((((((TL zz - 2 * (K1 zz.natAbs + kk) : Nat) : Int)) - 1) - 1)).toNat ((48 + ((((Aq zz.natAbs (K1 zz.natAbs + kk) % 100 : Nat) : Int))) / 10))) j))))] : va_W) _ := hP
        have hD : va_D (kAB b v s.heap.size) ([(b, .inr (1, [.ref v, .int 0, .int tm, .int (iZ (((n : Nat) : Int)))])), (v, .inl (dA 2, 16, .inl (fun j => iZ ((gu (gu g_10 (((((TL zz - 2 * (K1 zz.natAbs + kk) : Nat) : Int)) - 1)).toNat ((48 + ((((Aq zz.natAbs (K1 zz.natAbs + kk) % 100 : Nat) : Int))) % 10))) ((((((TL zz - 2 * (K1 zz.natAbs + kk) : Nat) : Int)) - 1) - 1)).toNat ((48 + ((((Aq zz.natAbs (K1 zz.natAbs + kk) % 100 : Nat) : Int))) / 10))) j))))] : va_W) := hD
        refine lv_goto (tgt := 86) hx hb dJ13_getChars_11360_140 (by decide) ?_
        exact ih _ _ ls ⟨by have h9 := lv_sub hl [1, 0, 4, 5, 6] rfl; rw [show ((TL zz - 2 * (K1 zz.natAbs + kk) : Nat) : Int) - 1 - 1 = ((TL zz - 2 * (K1 zz.natAbs + (kk + 1)) : Nat) : Int) from by omega] at h9; exact h9, ⟨_, kG_gu (kG_gu hg_g_10 (by omega)) (by omega), (by rw [show TL zz - 2 * (K1 zz.natAbs + (kk + 1)) = TL zz - 2 * (K1 zz.natAbs + kk) - 1 - 1 from by omega]; exact gtcast (GT_step (i := TL zz - 2 * (K1 zz.natAbs + kk) - 1 - 1) (GT_step (i := TL zz - 2 * (K1 zz.natAbs + kk) - 1) ht_g_10 (by omega) (by rw [TX_o (k := K1 zz.natAbs + kk) (by omega) (by omega)]; omega)) (by omega) (by rw [TX_t (k := K1 zz.natAbs + kk) (by omega) (by omega)]; omega)) (by omega) (by omega)), hP⟩, hS⟩
    · obtain ⟨hl, ⟨g_12, hg_g_12, ht_g_12, hP⟩, hS⟩ := hI
      have hD : va_D (kAB b v s.heap.size) ([(b, .inr (1, [.ref v, .int 0, .int tm, .int (iZ (((n : Nat) : Int)))])), (v, .inl (dA 2, 16, .inl (fun j => iZ (g_12 j))))] : va_W) := kW_D hbv
      have hq := Aq_le zz.natAbs kk
      have hge := K1_ge hk
      have hge2 := Aq_ge (a := zz.natAbs) (k := kk) (by omega)
      have hqs : Aq zz.natAbs (kk + 1) = Aq zz.natAbs kk / 100 := rfl
      refine lv_lload_n hx hb dJ13_getChars_11360_24 rfl (lv_at hl 0 rfl) ?_
      refine lv_ldc2 (v := lZ (-2147483648)) hx hb hown (hts _ (List.mem_cons_of_mem _ mw1280)) dJ13_getChars_11360_25 ?_
      refine kz_lcmp_gt (tgt := 82) hx hb (by omega) (by omega) dJ13_getChars_11360_28 dJ13_getChars_11360_29 (by decide) (fun c_13 => absurd c_13 (by omega)) (fun c_13 => ?_)
      refine lv_lload_n hx hb dJ13_getChars_11360_32 rfl (lv_at hl 0 rfl) ?_
      refine lv_ldc2 (v := lZ 100) hx hb hown (hts _ (List.mem_cons_of_mem _ mw1281)) dJ13_getChars_11360_33 ?_
      refine kz_ldiv hx hb (by omega) (by omega) dJ13_getChars_11360_36 ?_
      refine W.eq (g2 := F0 m 37 ls [.long (lZ (-((Aq zz.natAbs (kk + 1) : Nat) : Int)))]) (by rw [show (tq (-((Aq zz.natAbs (kk) : Nat) : Int)) 100) = -((Aq zz.natAbs (kk + 1) : Nat) : Int) from tq_n100 _]; try rfl) ?_
      refine lv_lstore (lv' := [(4, .long (lZ (-((Aq zz.natAbs (kk + 1) : Nat) : Int)))), (0, .long (lZ (-((Aq zz.natAbs (kk) : Nat) : Int)))), (7, .int (iZ (((TL zz - 2 * (kk) : Nat) : Int)))), (8, .int (iZ 0)), (2, .int (iZ (((TL zz : Nat) : Int)))), (3, .ref v)]) hx hb dJ13_getChars_11360_37 hl (by decide) rfl (fun ls hl => ?_)
      refine lv_lload hx hb dJ13_getChars_11360_39 (lv_at hl 0 rfl) ?_
      refine lv_ldc2 (v := lZ 100) hx hb hown (hts _ (List.mem_cons_of_mem _ mw1281)) dJ13_getChars_11360_41 ?_
      refine kz_lmul hx hb dJ13_getChars_11360_44 ?_
      refine lv_lload_n hx hb dJ13_getChars_11360_45 rfl (lv_at hl 1 rfl) ?_
      refine kz_lsub hx hb dJ13_getChars_11360_46 ?_
      refine kz_l2i hx hb dJ13_getChars_11360_47 ?_
      refine W.eq (g2 := F0 m 48 ls [.int (iZ (((Aq zz.natAbs kk % 100 : Nat) : Int)))]) (by rw [show (((-((Aq zz.natAbs (kk + 1) : Nat) : Int)) * 100) - (-((Aq zz.natAbs (kk) : Nat) : Int))) = ((Aq zz.natAbs kk % 100 : Nat) : Int) from by omega]; try rfl) ?_
      refine lv_istore (lv' := [(6, .int (iZ (((Aq zz.natAbs kk % 100 : Nat) : Int)))), (4, .long (lZ (-((Aq zz.natAbs (kk + 1) : Nat) : Int)))), (0, .long (lZ (-((Aq zz.natAbs (kk) : Nat) : Int)))), (7, .int (iZ (((TL zz - 2 * (kk) : Nat) : Int)))), (8, .int (iZ 0)), (2, .int (iZ (((TL zz : Nat) : Int)))), (3, .ref v)]) hx hb dJ13_getChars_11360_48 hl (by decide) rfl (fun ls hl => ?_)
      refine lv_lload hx hb dJ13_getChars_11360_50 (lv_at hl 1 rfl) ?_
      refine lv_lstore_n (lv' := [(0, .long (lZ (-((Aq zz.natAbs (kk + 1) : Nat) : Int)))), (6, .int (iZ (((Aq zz.natAbs kk % 100 : Nat) : Int)))), (4, .long (lZ (-((Aq zz.natAbs (kk + 1) : Nat) : Int)))), (7, .int (iZ (((TL zz - 2 * (kk) : Nat) : Int)))), (8, .int (iZ 0)), (2, .int (iZ (((TL zz : Nat) : Int)))), (3, .ref v)]) hx hb dJ13_getChars_11360_52 rfl hl (by decide) rfl (fun ls hl => ?_)
      refine lv_aload_n hx hb dJ13_getChars_11360_53 rfl (lv_at hl 6 rfl) ?_
      refine lv_iinc (v := iZ ((((TL zz - 2 * (kk) : Nat) : Int)) - 1)) (lv' := [(7, .int (iZ ((((TL zz - 2 * (kk) : Nat) : Int)) - 1))), (0, .long (lZ (-((Aq zz.natAbs (kk + 1) : Nat) : Int)))), (6, .int (iZ (((Aq zz.natAbs kk % 100 : Nat) : Int)))), (4, .long (lZ (-((Aq zz.natAbs (kk + 1) : Nat) : Int)))), (8, .int (iZ 0)), (2, .int (iZ (((TL zz : Nat) : Int)))), (3, .ref v)]) hx hb dJ13_getChars_11360_54 hl (k := 3) rfl (by rw [show Int32.ofInt (-1) = iZ (-1) from rfl, iZ_add]; exact congrArg iZ (by omega)) (by decide) rfl (fun ls hl => ?_)
      refine lv_iload hx hb dJ13_getChars_11360_57 (lv_at hl 0 rfl) ?_
      refine va_gets (v := .ref (k 5)) hx hb hM.2.2.1 (kSN hS hAN) hown (hts _ (List.mem_cons_of_mem _ mw1282)) (fun _ h9 => h9) dJ13_getChars_11360_59 ?_
      refine lv_iload hx hb dJ13_getChars_11360_62 (lv_at hl 2 rfl) ?_
      refine kz_btab (v := 48 + ((((Aq zz.natAbs kk % 100 : Nat) : Int))) % 10) hx hb hM.2.2.2.1 (kSN hS hAN) (by omega) (by decide) (kdig_5 (by omega)) dJ13_getChars_11360_64 ?_
      refine kz_bast hx hb hM.1.1 hP hD hS 1 rfl (by omega) (by omega) (by omega) dJ13_getChars_11360_65 (fun H locs hP hD hS => ?_)
      have hP : va_P (dC, dI) vwCl ([(b, .inr (1, [.ref v, .int 0, .int tm, .int (iZ (((n : Nat) : Int)))])), (v, .inl (dA 2, 16, .inl (fun j => iZ ((gu g_12 (((((TL zz - 2 * (kk) : Nat) : Int)) - 1)).toNat ((48 + ((((Aq zz.natAbs kk % 100 : Nat) : Int))) % 10))) j))))] : va_W) _ := hP
      have hD : va_D (kAB b v s.heap.size) ([(b, .inr (1, [.ref v, .int 0, .int tm, .int (iZ (((n : Nat) : Int)))])), (v, .inl (dA 2, 16, .inl (fun j => iZ ((gu g_12 (((((TL zz - 2 * (kk) : Nat) : Int)) - 1)).toNat ((48 + ((((Aq zz.natAbs kk % 100 : Nat) : Int))) % 10))) j))))] : va_W) := hD
      refine lv_aload_n hx hb dJ13_getChars_11360_66 rfl (lv_at hl 6 rfl) ?_
      refine lv_iinc (v := iZ (((((TL zz - 2 * (kk) : Nat) : Int)) - 1) - 1)) (lv' := [(7, .int (iZ (((((TL zz - 2 * (kk) : Nat) : Int)) - 1) - 1))), (0, .long (lZ (-((Aq zz.natAbs (kk + 1) : Nat) : Int)))), (6, .int (iZ (((Aq zz.natAbs kk % 100 : Nat) : Int)))), (4, .long (lZ (-((Aq zz.natAbs (kk + 1) : Nat) : Int)))), (8, .int (iZ 0)), (2, .int (iZ (((TL zz : Nat) : Int)))), (3, .ref v)]) hx hb dJ13_getChars_11360_67 hl (k := 0) rfl (by rw [show Int32.ofInt (-1) = iZ (-1) from rfl, iZ_add]; exact congrArg iZ (by omega)) (by decide) rfl (fun ls hl => ?_)
      refine lv_iload hx hb dJ13_getChars_11360_70 (lv_at hl 0 rfl) ?_
      refine va_gets (v := .ref (k 6)) hx hb hM.2.2.2.2.1 (kSN hS hAN) hown (hts _ (List.mem_cons_of_mem _ mw1283)) (fun _ h9 => h9) dJ13_getChars_11360_72 ?_
      refine lv_iload hx hb dJ13_getChars_11360_75 (lv_at hl 2 rfl) ?_
      refine kz_btab (v := 48 + ((((Aq zz.natAbs kk % 100 : Nat) : Int))) / 10) hx hb hM.2.2.2.2.2.1 (kSN hS hAN) (by omega) (by decide) (kdig_6 (by omega)) dJ13_getChars_11360_77 ?_
      refine kz_bast hx hb hM.1.1 hP hD hS 1 rfl (by omega) (by omega) (by omega) dJ13_getChars_11360_78 (fun H locs hP hD hS => ?_)
      have hP : va_P (dC, dI) vwCl ([(b, .inr (1, [.ref v, .int 0, .int tm, .int (iZ (((n : Nat) : Int)))])), (v, .inl (dA 2, 16, .inl (fun j => iZ ((gu (gu g_12 (((((TL zz - 2 * (kk) : Nat) : Int)) - 1)).toNat ((48 + ((((Aq zz.natAbs kk % 100 : Nat) : Int))) % 10))) ((((((TL zz - 2 * (kk) : Nat) : Int)) - 1) - 1)).toNat ((48 + ((((Aq zz.natAbs kk % 100 : Nat) : Int))) / 10))) j))))] : va_W) _ := hP
      have hD : va_D (kAB b v s.heap.size) ([(b, .inr (1, [.ref v, .int 0, .int tm, .int (iZ (((n : Nat) : Int)))])), (v, .inl (dA 2, 16, .inl (fun j => iZ ((gu (gu g_12 (((((TL zz - 2 * (kk) : Nat) : Int)) - 1)).toNat ((48 + ((((Aq zz.natAbs kk % 100 : Nat) : Int))) % 10))) ((((((TL zz - 2 * (kk) : Nat) : Int)) - 1) - 1)).toNat ((48 + ((((Aq zz.natAbs kk % 100 : Nat) : Int))) / 10))) j))))] : va_W) := hD
      refine lv_goto (tgt := 24) hx hb dJ13_getChars_11360_79 (by decide) ?_
      exact ih _ _ ls ⟨by have h9 := lv_sub hl [1, 0, 4, 5, 6] rfl; rw [show ((TL zz - 2 * (kk) : Nat) : Int) - 1 - 1 = ((TL zz - 2 * (kk + 1) : Nat) : Int) from by omega] at h9; exact h9, ⟨_, kG_gu (kG_gu hg_g_12 (by omega)) (by omega), (by rw [show TL zz - 2 * (kk + 1) = TL zz - 2 * (kk) - 1 - 1 from by omega]; exact gtcast (GT_step (i := TL zz - 2 * (kk) - 1 - 1) (GT_step (i := TL zz - 2 * (kk) - 1) ht_g_12 (by omega) (by rw [TX_o (k := kk) (by omega) (by omega)]; omega)) (by omega) (by rw [TX_t (k := kk) (by omega) (by omega)]; omega)) (by omega) (by omega)), hP⟩, hS⟩
  · have hTLs : TL zz = ndg zz.natAbs + 1 := by unfold TL; split <;> omega
    refine lv_iconst (v := iZ 1) hx hb dJ13_getChars_11360_9 rfl ?_
    refine lv_goto (tgt := 14) hx hb dJ13_getChars_11360_10 (by decide) ?_
    refine lv_istore (lv' := [(8, .int (iZ 1)), (7, .int (iZ (((TL zz : Nat) : Int)))), (0, .long (lZ (zz))), (2, .int (iZ (((TL zz : Nat) : Int)))), (3, .ref v)]) hx hb dJ13_getChars_11360_14 hl (by decide) rfl (fun ls hl => ?_)
    refine lv_iload hx hb dJ13_getChars_11360_16 (lv_at hl 0 rfl) ?_
    refine kz_if_ne (tgt := 24) hx hb (by omega) dJ13_getChars_11360_18 (by decide) (fun c_14 => ?_) (fun c_14 => absurd c_14 (by omega))
    refine k_loop3 (W := fun (H : Heap) (locs : List Loc) (ls : Array Slot) => W p l e _ s m _ below meth c H locs _ _ _ (F0 m 24 ls [])) (fun (kk : Nat) (H : Heap) (locs : List Loc) (ls : Array Slot) => lv_has ls 11 [(0, .long (lZ (-((Aq zz.natAbs (kk) : Nat) : Int)))), (7, .int (iZ (((TL zz - 2 * (kk) : Nat) : Int)))), (8, .int (iZ 1)), (2, .int (iZ (((TL zz : Nat) : Int)))), (3, .ref v)] ∧ (∃ g9 : Nat → Int, kG g9 ∧ GT zz g9 (TL zz - 2 * (kk)) ∧ va_P (dC, dI) vwCl ([(b, .inr (1, [.ref v, .int 0, .int tm, .int (iZ (((n : Nat) : Int)))])), (v, .inl (dA 2, 16, .inl (fun j => iZ (g9 j))))] : va_W) H) ∧ va_S (kAB b v s.heap.size) s.heap H locs) (K1 zz.natAbs) 0 (Nat.zero_le _) ⟨by have h9 := lv_sub hl [2, 1, 0, 3, 4] rfl; rw [show Value.long (lZ (zz)) = Value.long (lZ (-((Aq zz.natAbs 0 : Nat) : Int))) from by rw [show -((Aq zz.natAbs 0 : Nat) : Int) = zz from by show -((zz.natAbs : Nat) : Int) = _; omega]] at h9; exact h9, ⟨_, hg, (by exact GT_0 zz g), hP⟩, hS⟩ (fun H locs ls hI => ?_) (fun kk H locs ls hk hI ih => ?_)
    · obtain ⟨hl, ⟨g_15, hg_g_15, ht_g_15, hP⟩, hS⟩ := hI
      have hD : va_D (kAB b v s.heap.size) ([(b, .inr (1, [.ref v, .int 0, .int tm, .int (iZ (((n : Nat) : Int)))])), (v, .inl (dA 2, 16, .inl (fun j => iZ (g_15 j))))] : va_W) := kW_D hbv
      have hq := Aq_le zz.natAbs (K1 zz.natAbs)
      have hlt := K1_lt h0
      refine lv_lload_n hx hb dJ13_getChars_11360_24 rfl (lv_at hl 0 rfl) ?_
      refine lv_ldc2 (v := lZ (-2147483648)) hx hb hown (hts _ (List.mem_cons_of_mem _ mw1280)) dJ13_getChars_11360_25 ?_
      refine kz_lcmp_gt (tgt := 82) hx hb (by omega) (by omega) dJ13_getChars_11360_28 dJ13_getChars_11360_29 (by decide) (fun c_16 => ?_) (fun c_16 => absurd c_16 (by omega))
      refine lv_lload_n hx hb dJ13_getChars_11360_82 rfl (lv_at hl 0 rfl) ?_
      refine kz_l2i hx hb dJ13_getChars_11360_83 ?_
      refine lv_istore (lv' := [(10, .int (iZ (-((Aq zz.natAbs ((K1 zz.natAbs)) : Nat) : Int)))), (0, .long (lZ (-((Aq zz.natAbs ((K1 zz.natAbs)) : Nat) : Int)))), (7, .int (iZ (((TL zz - 2 * ((K1 zz.natAbs)) : Nat) : Int)))), (8, .int (iZ 1)), (2, .int (iZ (((TL zz : Nat) : Int)))), (3, .ref v)]) hx hb dJ13_getChars_11360_84 hl (by decide) rfl (fun ls hl => ?_)
      refine k_loop3 (W := fun (H : Heap) (locs : List Loc) (ls : Array Slot) => W p l e _ s m _ below meth c H locs _ _ _ (F0 m 86 ls [])) (fun (kk : Nat) (H : Heap) (locs : List Loc) (ls : Array Slot) => lv_has ls 11 [(10, .int (iZ (-((Aq zz.natAbs (K1 zz.natAbs + kk) : Nat) : Int)))), (7, .int (iZ (((TL zz - 2 * (K1 zz.natAbs + kk) : Nat) : Int)))), (8, .int (iZ 1)), (2, .int (iZ (((TL zz : Nat) : Int)))), (3, .ref v)] ∧ (∃ g9 : Nat → Int, kG g9 ∧ GT zz g9 (TL zz - 2 * (K1 zz.natAbs + kk)) ∧ va_P (dC, dI) vwCl ([(b, .inr (1, [.ref v, .int 0, .int tm, .int (iZ (((n : Nat) : Int)))])), (v, .inl (dA 2, 16, .inl (fun j => iZ (g9 j))))] : va_W) H) ∧ va_S (kAB b v s.heap.size) s.heap H locs) (KP zz.natAbs - K1 zz.natAbs) 0 (Nat.zero_le _) ⟨by have h9 := lv_sub hl [0, 2, 3, 4, 5] rfl; exact h9, ⟨_, hg_g_15, ht_g_15, hP⟩, hS⟩ (fun H locs ls hI => ?_) (fun kk H locs ls hk hI ih => ?_)
      · obtain ⟨hl, ⟨g_17, hg_g_17, ht_g_17, hP⟩, hS⟩ := hI
        have hD : va_D (kAB b v s.heap.size) ([(b, .inr (1, [.ref v, .int 0, .int tm, .int (iZ (((n : Nat) : Int)))])), (v, .inl (dA 2, 16, .inl (fun j => iZ (g_17 j))))] : va_W) := kW_D hbv
        have hkk : K1 zz.natAbs + (KP zz.natAbs - K1 zz.natAbs) = KP zz.natAbs := by omega
        rw [hkk] at hl ht_g_17
        have hlt := Aq_lt (a := zz.natAbs)
        have h10 := Aq_10 (a := zz.natAbs)
        refine lv_iload hx hb dJ13_getChars_11360_86 (lv_at hl 0 rfl) ?_
        refine lv_bipush (v := iZ (-100)) hx hb dJ13_getChars_11360_88 rfl ?_
        refine kz_icmp_gt (tgt := 143) hx hb (by omega) (by omega) dJ13_getChars_11360_90 (by decide) (fun c_18 => ?_) (fun c_18 => absurd c_18 (by omega))
        refine lv_aload_n hx hb dJ13_getChars_11360_143 rfl (lv_at hl 4 rfl) ?_
        refine lv_iinc (v := iZ ((((TL zz - 2 * (KP zz.natAbs) : Nat) : Int)) - 1)) (lv' := [(7, .int (iZ ((((TL zz - 2 * (KP zz.natAbs) : Nat) : Int)) - 1))), (10, .int (iZ (-((Aq zz.natAbs (KP zz.natAbs) : Nat) : Int)))), (8, .int (iZ 1)), (2, .int (iZ (((TL zz : Nat) : Int)))), (3, .ref v)]) hx hb dJ13_getChars_11360_144 hl (k := 1) rfl (by rw [show Int32.ofInt (-1) = iZ (-1) from rfl, iZ_add]; exact congrArg iZ (by omega)) (by decide) rfl (fun ls hl => ?_)
        refine lv_iload hx hb dJ13_getChars_11360_147 (lv_at hl 0 rfl) ?_
        refine va_gets (v := .ref (k 5)) hx hb hM.2.2.1 (kSN hS hAN) hown (hts _ (List.mem_cons_of_mem _ mw1282)) (fun _ h9 => h9) dJ13_getChars_11360_149 ?_
        refine lv_iload hx hb dJ13_getChars_11360_152 (lv_at hl 1 rfl) ?_
        refine kz_ineg hx hb dJ13_getChars_11360_154 ?_
        refine kz_btab (v := 48 + ((-(-((Aq zz.natAbs (KP zz.natAbs) : Nat) : Int)))) % 10) hx hb hM.2.2.2.1 (kSN hS hAN) (by omega) (by decide) (kdig_5 (by omega)) dJ13_getChars_11360_155 ?_
        refine kz_bast hx hb hM.1.1 hP hD hS 1 rfl (by omega) (by omega) (by omega) dJ13_getChars_11360_156 (fun H locs hP hD hS => ?_)
        have hP : va_P (dC, dI) vwCl ([(b, .inr (1, [.ref v, .int 0, .int tm, .int (iZ (((n : Nat) : Int)))])), (v, .inl (dA 2, 16, .inl (fun j => iZ ((gu g_17 (((((TL zz - 2 * (KP zz.natAbs) : Nat) : Int)) - 1)).toNat ((48 + ((-(-((Aq zz.natAbs (KP zz.natAbs) : Nat) : Int)))) % 10))) j))))] : va_W) _ := hP
        have hD : va_D (kAB b v s.heap.size) ([(b, .inr (1, [.ref v, .int 0, .int tm, .int (iZ (((n : Nat) : Int)))])), (v, .inl (dA 2, 16, .inl (fun j => iZ ((gu g_17 (((((TL zz - 2 * (KP zz.natAbs) : Nat) : Int)) - 1)).toNat ((48 + ((-(-((Aq zz.natAbs (KP zz.natAbs) : Nat) : Int)))) % 10))) j))))] : va_W) := hD
        refine lv_iload hx hb dJ13_getChars_11360_157 (lv_at hl 1 rfl) ?_
        refine lv_bipush (v := iZ (-9)) hx hb dJ13_getChars_11360_159 rfl ?_
        refine kz_icmp_ge (tgt := 178) hx hb (by omega) (by omega) dJ13_getChars_11360_161 (by decide) (fun c_19 => ?_) (fun c_19 => ?_)
        · refine lv_iload hx hb dJ13_getChars_11360_178 (lv_at hl 2 rfl) ?_
          refine kz_if_eq (tgt := 192) hx hb (by omega) dJ13_getChars_11360_180 (by decide) (fun c_20 => absurd c_20 (by omega)) (fun c_20 => ?_)
          refine lv_aload_n hx hb dJ13_getChars_11360_183 rfl (lv_at hl 4 rfl) ?_
          refine lv_iinc (v := iZ (((((TL zz - 2 * (KP zz.natAbs) : Nat) : Int)) - 1) - 1)) (lv' := [(7, .int (iZ (((((TL zz - 2 * (KP zz.natAbs) : Nat) : Int)) - 1) - 1))), (10, .int (iZ (-((Aq zz.natAbs (KP zz.natAbs) : Nat) : Int)))), (8, .int (iZ 1)), (2, .int (iZ (((TL zz : Nat) : Int)))), (3, .ref v)]) hx hb dJ13_getChars_11360_184 hl (k := 0) rfl (by rw [show Int32.ofInt (-1) = iZ (-1) from rfl, iZ_add]; exact congrArg iZ (by omega)) (by decide) rfl (fun ls hl => ?_)
          refine lv_iload hx hb dJ13_getChars_11360_187 (lv_at hl 0 rfl) ?_
          refine lv_bipush (v := iZ 45) hx hb dJ13_getChars_11360_189 rfl ?_
          refine kz_bast hx hb hM.1.1 hP hD hS 1 rfl (by omega) (by omega) (by omega) dJ13_getChars_11360_191 (fun H locs hP hD hS => ?_)
          have hP : va_P (dC, dI) vwCl ([(b, .inr (1, [.ref v, .int 0, .int tm, .int (iZ (((n : Nat) : Int)))])), (v, .inl (dA 2, 16, .inl (fun j => iZ ((gu (gu g_17 (((((TL zz - 2 * (KP zz.natAbs) : Nat) : Int)) - 1)).toNat ((48 + ((-(-((Aq zz.natAbs (KP zz.natAbs) : Nat) : Int)))) % 10))) ((((((TL zz - 2 * (KP zz.natAbs) : Nat) : Int)) - 1) - 1)).toNat 45) j))))] : va_W) _ := hP
          have hD : va_D (kAB b v s.heap.size) ([(b, .inr (1, [.ref v, .int 0, .int tm, .int (iZ (((n : Nat) : Int)))])), (v, .inl (dA 2, 16, .inl (fun j => iZ ((gu (gu g_17 (((((TL zz - 2 * (KP zz.natAbs) : Nat) : Int)) - 1)).toNat ((48 + ((-(-((Aq zz.natAbs (KP zz.natAbs) : Nat) : Int)))) % 10))) ((((((TL zz - 2 * (KP zz.natAbs) : Nat) : Int)) - 1) - 1)).toNat 45) j))))] : va_W) := hD
          refine lv_iload hx hb dJ13_getChars_11360_192 (lv_at hl 0 rfl) ?_
          exact W.iret (v := iZ (((((TL zz - 2 * (KP zz.natAbs) : Nat) : Int)) - 1) - 1)) hx hb hr9 (fun t ht hW => ⟨⟨congrArg (fun z : Int => Outcome.returned (some (Value.int (iZ z)))) (show (((((TL zz - 2 * (KP zz.natAbs) : Nat) : Int)) - 1) - 1) = 0 from by omega), ⟨_, (kG_gu (i := ((((((TL zz - 2 * (KP zz.natAbs) : Nat) : Int)) - 1) - 1)).toNat) (c := 45) (kG_gu (i := (((((TL zz - 2 * (KP zz.natAbs) : Nat) : Int)) - 1)).toNat) (c := ((48 + ((-(-((Aq zz.natAbs (KP zz.natAbs) : Nat) : Int)))) % 10))) hg_g_17 (by omega)) (by omega)), fun j hj => (GT_step (i := ((((((TL zz - 2 * (KP zz.natAbs) : Nat) : Int)) - 1) - 1)).toNat) (GT_step (i := (((((TL zz - 2 * (KP zz.natAbs) : Nat) : Int)) - 1)).toNat) ht_g_17 (by omega) (by rw [TX_o (k := KP zz.natAbs) (by omega) (by omega)]; omega)) (by omega) (by rw [show ((((((TL zz - 2 * (KP zz.natAbs) : Nat) : Int)) - 1) - 1)).toNat = 0 from by omega]; exact (TX_m (by omega)).symm)) j (by omega) hj, _, htm, by rw [ht]; exact hP⟩⟩, hS.F ht⟩) hS.2.2 dJ13_getChars_11360_194
        · refine lv_aload_n hx hb dJ13_getChars_11360_164 rfl (lv_at hl 4 rfl) ?_
          refine lv_iinc (v := iZ (((((TL zz - 2 * (KP zz.natAbs) : Nat) : Int)) - 1) - 1)) (lv' := [(7, .int (iZ (((((TL zz - 2 * (KP zz.natAbs) : Nat) : Int)) - 1) - 1))), (10, .int (iZ (-((Aq zz.natAbs (KP zz.natAbs) : Nat) : Int)))), (8, .int (iZ 1)), (2, .int (iZ (((TL zz : Nat) : Int)))), (3, .ref v)]) hx hb dJ13_getChars_11360_165 hl (k := 0) rfl (by rw [show Int32.ofInt (-1) = iZ (-1) from rfl, iZ_add]; exact congrArg iZ (by omega)) (by decide) rfl (fun ls hl => ?_)
          refine lv_iload hx hb dJ13_getChars_11360_168 (lv_at hl 0 rfl) ?_
          refine va_gets (v := .ref (k 6)) hx hb hM.2.2.2.2.1 (kSN hS hAN) hown (hts _ (List.mem_cons_of_mem _ mw1283)) (fun _ h9 => h9) dJ13_getChars_11360_170 ?_
          refine lv_iload hx hb dJ13_getChars_11360_173 (lv_at hl 1 rfl) ?_
          refine kz_ineg hx hb dJ13_getChars_11360_175 ?_
          refine kz_btab (v := 48 + ((-(-((Aq zz.natAbs (KP zz.natAbs) : Nat) : Int)))) / 10) hx hb hM.2.2.2.2.2.1 (kSN hS hAN) (by omega) (by decide) (kdig_6 (by omega)) dJ13_getChars_11360_176 ?_
          refine kz_bast hx hb hM.1.1 hP hD hS 1 rfl (by omega) (by omega) (by omega) dJ13_getChars_11360_177 (fun H locs hP hD hS => ?_)
          have hP : va_P (dC, dI) vwCl ([(b, .inr (1, [.ref v, .int 0, .int tm, .int (iZ (((n : Nat) : Int)))])), (v, .inl (dA 2, 16, .inl (fun j => iZ ((gu (gu g_17 (((((TL zz - 2 * (KP zz.natAbs) : Nat) : Int)) - 1)).toNat ((48 + ((-(-((Aq zz.natAbs (KP zz.natAbs) : Nat) : Int)))) % 10))) ((((((TL zz - 2 * (KP zz.natAbs) : Nat) : Int)) - 1) - 1)).toNat ((48 + ((-(-((Aq zz.natAbs (KP zz.natAbs) : Nat) : Int)))) / 10))) j))))] : va_W) _ := hP
          have hD : va_D (kAB b v s.heap.size) ([(b, .inr (1, [.ref v, .int 0, .int tm, .int (iZ (((n : Nat) : Int)))])), (v, .inl (dA 2, 16, .inl (fun j => iZ ((gu (gu g_17 (((((TL zz - 2 * (KP zz.natAbs) : Nat) : Int)) - 1)).toNat ((48 + ((-(-((Aq zz.natAbs (KP zz.natAbs) : Nat) : Int)))) % 10))) ((((((TL zz - 2 * (KP zz.natAbs) : Nat) : Int)) - 1) - 1)).toNat ((48 + ((-(-((Aq zz.natAbs (KP zz.natAbs) : Nat) : Int)))) / 10))) j))))] : va_W) := hD
          refine lv_iload hx hb dJ13_getChars_11360_178 (lv_at hl 2 rfl) ?_
          refine kz_if_eq (tgt := 192) hx hb (by omega) dJ13_getChars_11360_180 (by decide) (fun c_21 => absurd c_21 (by omega)) (fun c_21 => ?_)
          refine lv_aload_n hx hb dJ13_getChars_11360_183 rfl (lv_at hl 4 rfl) ?_
          refine lv_iinc (v := iZ ((((((TL zz - 2 * (KP zz.natAbs) : Nat) : Int)) - 1) - 1) - 1)) (lv' := [(7, .int (iZ ((((((TL zz - 2 * (KP zz.natAbs) : Nat) : Int)) - 1) - 1) - 1))), (10, .int (iZ (-((Aq zz.natAbs (KP zz.natAbs) : Nat) : Int)))), (8, .int (iZ 1)), (2, .int (iZ (((TL zz : Nat) : Int)))), (3, .ref v)]) hx hb dJ13_getChars_11360_184 hl (k := 0) rfl (by rw [show Int32.ofInt (-1) = iZ (-1) from rfl, iZ_add]; exact congrArg iZ (by omega)) (by decide) rfl (fun ls hl => ?_)
          refine lv_iload hx hb dJ13_getChars_11360_187 (lv_at hl 0 rfl) ?_
          refine lv_bipush (v := iZ 45) hx hb dJ13_getChars_11360_189 rfl ?_
          refine kz_bast hx hb hM.1.1 hP hD hS 1 rfl (by omega) (by omega) (by omega) dJ13_getChars_11360_191 (fun H locs hP hD hS => ?_)
          have hP : va_P (dC, dI) vwCl ([(b, .inr (1, [.ref v, .int 0, .int tm, .int (iZ (((n : Nat) : Int)))])), (v, .inl (dA 2, 16, .inl (fun j => iZ ((gu (gu (gu g_17 (((((TL zz - 2 * (KP zz.natAbs) : Nat) : Int)) - 1)).toNat ((48 + ((-(-((Aq zz.natAbs (KP zz.natAbs) : Nat) : Int)))) % 10))) ((((((TL zz - 2 * (KP zz.natAbs) : Nat) : Int)) - 1) - 1)).toNat ((48 + ((-(-((Aq zz.natAbs (KP zz.natAbs) : Nat) : Int)))) / 10))) (((((((TL zz - 2 * (KP zz.natAbs) : Nat) : Int)) - 1) - 1) - 1)).toNat 45) j))))] : va_W) _ := hP
          have hD : va_D (kAB b v s.heap.size) ([(b, .inr (1, [.ref v, .int 0, .int tm, .int (iZ (((n : Nat) : Int)))])), (v, .inl (dA 2, 16, .inl (fun j => iZ ((gu (gu (gu g_17 (((((TL zz - 2 * (KP zz.natAbs) : Nat) : Int)) - 1)).toNat ((48 + ((-(-((Aq zz.natAbs (KP zz.natAbs) : Nat) : Int)))) % 10))) ((((((TL zz - 2 * (KP zz.natAbs) : Nat) : Int)) - 1) - 1)).toNat ((48 + ((-(-((Aq zz.natAbs (KP zz.natAbs) : Nat) : Int)))) / 10))) (((((((TL zz - 2 * (KP zz.natAbs) : Nat) : Int)) - 1) - 1) - 1)).toNat 45) j))))] : va_W) := hD
          refine lv_iload hx hb dJ13_getChars_11360_192 (lv_at hl 0 rfl) ?_
          exact W.iret (v := iZ ((((((TL zz - 2 * (KP zz.natAbs) : Nat) : Int)) - 1) - 1) - 1)) hx hb hr9 (fun t ht hW => ⟨⟨congrArg (fun z : Int => Outcome.returned (some (Value.int (iZ z)))) (show ((((((TL zz - 2 * (KP zz.natAbs) : Nat) : Int)) - 1) - 1) - 1) = 0 from by omega), ⟨_, (kG_gu (i := (((((((TL zz - 2 * (KP zz.natAbs) : Nat) : Int)) - 1) - 1) - 1)).toNat) (c := 45) (kG_gu (i := ((((((TL zz - 2 * (KP zz.natAbs) : Nat) : Int)) - 1) - 1)).toNat) (c := ((48 + ((-(-((Aq zz.natAbs (KP zz.natAbs) : Nat) : Int)))) / 10))) (kG_gu (i := (((((TL zz - 2 * (KP zz.natAbs) : Nat) : Int)) - 1)).toNat) (c := ((48 + ((-(-((Aq zz.natAbs (KP zz.natAbs) : Nat) : Int)))) % 10))) hg_g_17 (by omega)) (by omega)) (by omega)), fun j hj => (GT_step (i := (((((((TL zz - 2 * (KP zz.natAbs) : Nat) : Int)) - 1) - 1) - 1)).toNat) (GT_step (i := ((((((TL zz - 2 * (KP zz.natAbs) : Nat) : Int)) - 1) - 1)).toNat) (GT_step (i := (((((TL zz - 2 * (KP zz.natAbs) : Nat) : Int)) - 1)).toNat) ht_g_17 (by omega) (by rw [TX_o (k := KP zz.natAbs) (by omega) (by omega)]; omega)) (by omega) (by rw [TX_t (k := KP zz.natAbs) (by omega) (by omega)]; omega)) (by omega) (by rw [show (((((((TL zz - 2 * (KP zz.natAbs) : Nat) : Int)) - 1) - 1) - 1)).toNat = 0 from by omega]; exact (TX_m (by omega)).symm)) j (by omega) hj, _, htm, by rw [ht]; exact hP⟩⟩, hS.F ht⟩) hS.2.2 dJ13_getChars_11360_194
      · obtain ⟨hl, ⟨g_22, hg_g_22, ht_g_22, hP⟩, hS⟩ := hI
        have hD : va_D (kAB b v s.heap.size) ([(b, .inr (1, [.ref v, .int 0, .int tm, .int (iZ (((n : Nat) : Int)))])), (v, .inl (dA 2, 16, .inl (fun j => iZ (g_22 j))))] : va_W) := kW_D hbv
        have hq := Aq_mono zz.natAbs (K1 zz.natAbs) kk
        have hlt := K1_lt h0
        have hge2 := Aq_ge (a := zz.natAbs) (k := K1 zz.natAbs + kk) (by omega)
        have hqs : Aq zz.natAbs (K1 zz.natAbs + (kk + 1)) = Aq zz.natAbs (K1 zz.natAbs + kk) / 100 := rfl
        refine lv_iload hx hb dJ13_getChars_11360_86 (lv_at hl 0 rfl) ?_
        refine lv_bipush (v := iZ (-100)) hx hb dJ13_getChars_11360_88 rfl ?_
        refine kz_icmp_gt (tgt := 143) hx hb (by omega) (by omega) dJ13_getChars_11360_90 (by decide) (fun c_23 => absurd c_23 (by omega)) (fun c_23 => ?_)
        refine lv_iload hx hb dJ13_getChars_11360_93 (lv_at hl 0 rfl) ?_
        refine lv_bipush (v := iZ 100) hx hb dJ13_getChars_11360_95 rfl ?_
        refine kz_idiv hx hb (by omega) (by omega) dJ13_getChars_11360_97 ?_
        refine W.eq (g2 := F0 m 98 ls [.int (iZ (-((Aq zz.natAbs (K1 zz.natAbs + (kk + 1)) : Nat) : Int)))]) (by rw [show (tq (-((Aq zz.natAbs (K1 zz.natAbs + kk) : Nat) : Int)) 100) = -((Aq zz.natAbs (K1 zz.natAbs + (kk + 1)) : Nat) : Int) from tq_n100 _]; try rfl) ?_
        refine lv_istore (lv' := [(9, .int (iZ (-((Aq zz.natAbs (K1 zz.natAbs + (kk + 1)) : Nat) : Int)))), (10, .int (iZ (-((Aq zz.natAbs (K1 zz.natAbs + kk) : Nat) : Int)))), (7, .int (iZ (((TL zz - 2 * (K1 zz.natAbs + kk) : Nat) : Int)))), (8, .int (iZ 1)), (2, .int (iZ (((TL zz : Nat) : Int)))), (3, .ref v)]) hx hb dJ13_getChars_11360_98 hl (by decide) rfl (fun ls hl => ?_)
        refine lv_iload hx hb dJ13_getChars_11360_100 (lv_at hl 0 rfl) ?_
        refine lv_bipush (v := iZ 100) hx hb dJ13_getChars_11360_102 rfl ?_
        refine kz_imul hx hb dJ13_getChars_11360_104 ?_
        refine lv_iload hx hb dJ13_getChars_11360_105 (lv_at hl 1 rfl) ?_
        refine kz_isub hx hb dJ13_getChars_11360_107 ?_
        refine W.eq (g2 := F0 m 108 ls [.int (iZ (((Aq zz.natAbs (K1 zz.natAbs + kk) % 100 : Nat) : Int)))]) (by rw [show (((-((Aq zz.natAbs (K1 zz.natAbs + (kk + 1)) : Nat) : Int)) * 100) - (-((Aq zz.natAbs (K1 zz.natAbs + kk) : Nat) : Int))) = ((Aq zz.natAbs (K1 zz.natAbs + kk) % 100 : Nat) : Int) from by omega]; try rfl) ?_
        refine lv_istore (lv' := [(6, .int (iZ (((Aq zz.natAbs (K1 zz.natAbs + kk) % 100 : Nat) : Int)))), (9, .int (iZ (-((Aq zz.natAbs (K1 zz.natAbs + (kk + 1)) : Nat) : Int)))), (10, .int (iZ (-((Aq zz.natAbs (K1 zz.natAbs + kk) : Nat) : Int)))), (7, .int (iZ (((TL zz - 2 * (K1 zz.natAbs + kk) : Nat) : Int)))), (8, .int (iZ 1)), (2, .int (iZ (((TL zz : Nat) : Int)))), (3, .ref v)]) hx hb dJ13_getChars_11360_108 hl (by decide) rfl (fun ls hl => ?_)
        refine lv_iload hx hb dJ13_getChars_11360_110 (lv_at hl 1 rfl) ?_
        refine lv_istore (lv' := [(10, .int (iZ (-((Aq zz.natAbs (K1 zz.natAbs + (kk + 1)) : Nat) : Int)))), (6, .int (iZ (((Aq zz.natAbs (K1 zz.natAbs + kk) % 100 : Nat) : Int)))), (9, .int (iZ (-((Aq zz.natAbs (K1 zz.natAbs + (kk + 1)) : Nat) : Int)))), (7, .int (iZ (((TL zz - 2 * (K1 zz.natAbs + kk) : Nat) : Int)))), (8, .int (iZ 1)), (2, .int (iZ (((TL zz : Nat) : Int)))), (3, .ref v)]) hx hb dJ13_getChars_11360_112 hl (by decide) rfl (fun ls hl => ?_)
        refine lv_aload_n hx hb dJ13_getChars_11360_114 rfl (lv_at hl 6 rfl) ?_
        refine lv_iinc (v := iZ ((((TL zz - 2 * (K1 zz.natAbs + kk) : Nat) : Int)) - 1)) (lv' := [(7, .int (iZ ((((TL zz - 2 * (K1 zz.natAbs + kk) : Nat) : Int)) - 1))), (10, .int (iZ (-((Aq zz.natAbs (K1 zz.natAbs + (kk + 1)) : Nat) : Int)))), (6, .int (iZ (((Aq zz.natAbs (K1 zz.natAbs + kk) % 100 : Nat) : Int)))), (9, .int (iZ (-((Aq zz.natAbs (K1 zz.natAbs + (kk + 1)) : Nat) : Int)))), (8, .int (iZ 1)), (2, .int (iZ (((TL zz : Nat) : Int)))), (3, .ref v)]) hx hb dJ13_getChars_11360_115 hl (k := 3) rfl (by rw [show Int32.ofInt (-1) = iZ (-1) from rfl, iZ_add]; exact congrArg iZ (by omega)) (by decide) rfl (fun ls hl => ?_)
        refine lv_iload hx hb dJ13_getChars_11360_118 (lv_at hl 0 rfl) ?_
        refine va_gets (v := .ref (k 5)) hx hb hM.2.2.1 (kSN hS hAN) hown (hts _ (List.mem_cons_of_mem _ mw1282)) (fun _ h9 => h9) dJ13_getChars_11360_120 ?_
        refine lv_iload hx hb dJ13_getChars_11360_123 (lv_at hl 2 rfl) ?_
        refine kz_btab (v := 48 + ((((Aq zz.natAbs (K1 zz.natAbs + kk) % 100 : Nat) : Int))) % 10) hx hb hM.2.2.2.1 (kSN hS hAN) (by omega) (by decide) (kdig_5 (by omega)) dJ13_getChars_11360_125 ?_
        refine kz_bast hx hb hM.1.1 hP hD hS 1 rfl (by omega) (by omega) (by omega) dJ13_getChars_11360_126 (fun H locs hP hD hS => ?_)
        have hP : va_P (dC, dI) vwCl ([(b, .inr (1, [.ref v, .int 0, .int tm, .int (iZ (((n : Nat) : Int)))])), (v, .inl (dA 2, 16, .inl (fun j => iZ ((gu g_22 (((((TL zz - 2 * (K1 zz.natAbs + kk) : Nat) : Int)) - 1)).toNat ((48 + ((((Aq zz.natAbs (K1 zz.natAbs + kk) % 100 : Nat) : Int))) % 10))) j))))] : va_W) _ := hP
        have hD : va_D (kAB b v s.heap.size) ([(b, .inr (1, [.ref v, .int 0, .int tm, .int (iZ (((n : Nat) : Int)))])), (v, .inl (dA 2, 16, .inl (fun j => iZ ((gu g_22 (((((TL zz - 2 * (K1 zz.natAbs + kk) : Nat) : Int)) - 1)).toNat ((48 + ((((Aq zz.natAbs (K1 zz.natAbs + kk) % 100 : Nat) : Int))) % 10))) j))))] : va_W) := hD
        refine lv_aload_n hx hb dJ13_getChars_11360_127 rfl (lv_at hl 6 rfl) ?_
        refine lv_iinc (v := iZ (((((TL zz - 2 * (K1 zz.natAbs + kk) : Nat) : Int)) - 1) - 1)) (lv' := [(7, .int (iZ (((((TL zz - 2 * (K1 zz.natAbs + kk) : Nat) : Int)) - 1) - 1))), (10, .int (iZ (-((Aq zz.natAbs (K1 zz.natAbs + (kk + 1)) : Nat) : Int)))), (6, .int (iZ (((Aq zz.natAbs (K1 zz.natAbs + kk) % 100 : Nat) : Int)))), (9, .int (iZ (-((Aq zz.natAbs (K1 zz.natAbs + (kk + 1)) : Nat) : Int)))), (8, .int (iZ 1)), (2, .int (iZ (((TL zz : Nat) : Int)))), (3, .ref v)]) hx hb dJ13_getChars_11360_128 hl (k := 0) rfl (by rw [show Int32.ofInt (-1) = iZ (-1) from rfl, iZ_add]; exact congrArg iZ (by omega)) (by decide) rfl (fun ls hl => ?_)
        refine lv_iload hx hb dJ13_getChars_11360_131 (lv_at hl 0 rfl) ?_
        refine va_gets (v := .ref (k 6)) hx hb hM.2.2.2.2.1 (kSN hS hAN) hown (hts _ (List.mem_cons_of_mem _ mw1283)) (fun _ h9 => h9) dJ13_getChars_11360_133 ?_
        refine lv_iload hx hb dJ13_getChars_11360_136 (lv_at hl 2 rfl) ?_
        refine kz_btab (v := 48 + ((((Aq zz.natAbs (K1 zz.natAbs + kk) % 100 : Nat) : Int))) / 10) hx hb hM.2.2.2.2.2.1 (kSN hS hAN) (by omega) (by decide) (kdig_6 (by omega)) dJ13_getChars_11360_138 ?_
        refine kz_bast hx hb hM.1.1 hP hD hS 1 rfl (by omega) (by omega) (by omega) dJ13_getChars_11360_139 (fun H locs hP hD hS => ?_)
        have hP : va_P (dC, dI) vwCl ([(b, .inr (1, [.ref v, .int 0, .int tm, .int (iZ (((n : Nat) : Int)))])), (v, .inl (dA 2, 16, .inl (fun j => iZ ((gu (gu g_22 (((((TL zz - 2 * (K1 zz.natAbs + kk) : Nat) : Int)) - 1)).toNat ((48 + ((((Aq zz.natAbs (K1 zz.natAbs + kk) % 100 : Nat) : Int))) % 10))) ((((((TL zz - 2 * (K1 zz.natAbs + kk) : Nat) : Int)) - 1) - 1)).toNat ((48 + ((((Aq zz.natAbs (K1 zz.natAbs + kk) % 100 : Nat) : Int))) / 10))) j))))] : va_W) _ := hP
        have hD : va_D (kAB b v s.heap.size) ([(b, .inr (1, [.ref v, .int 0, .int tm, .int (iZ (((n : Nat) : Int)))])), (v, .inl (dA 2, 16, .inl (fun j => iZ ((gu (gu g_22 (((((TL zz - 2 * (K1 zz.natAbs + kk) : Nat) : Int)) - 1)).toNat ((48 + ((((Aq zz.natAbs (K1 zz.natAbs + kk) % 100 : Nat) : Int))) % 10))) ((((((TL zz - 2 * (K1 zz.natAbs + kk) : Nat) : Int)) - 1) - 1)).toNat ((48 + ((((Aq zz.natAbs (K1 zz.natAbs + kk) % 100 : Nat) : Int))) / 10))) j))))] : va_W) := hD
        refine lv_goto (tgt := 86) hx hb dJ13_getChars_11360_140 (by decide) ?_
        exact ih _ _ ls ⟨by have h9 := lv_sub hl [1, 0, 4, 5, 6] rfl; rw [show ((TL zz - 2 * (K1 zz.natAbs + kk) : Nat) : Int) - 1 - 1 = ((TL zz - 2 * (K1 zz.natAbs + (kk + 1)) : Nat) : Int) from by omega] at h9; exact h9, ⟨_, kG_gu (kG_gu hg_g_22 (by omega)) (by omega), (by rw [show TL zz - 2 * (K1 zz.natAbs + (kk + 1)) = TL zz - 2 * (K1 zz.natAbs + kk) - 1 - 1 from by omega]; exact gtcast (GT_step (i := TL zz - 2 * (K1 zz.natAbs + kk) - 1 - 1) (GT_step (i := TL zz - 2 * (K1 zz.natAbs + kk) - 1) ht_g_22 (by omega) (by rw [TX_o (k := K1 zz.natAbs + kk) (by omega) (by omega)]; omega)) (by omega) (by rw [TX_t (k := K1 zz.natAbs + kk) (by omega) (by omega)]; omega)) (by omega) (by omega)), hP⟩, hS⟩
    · obtain ⟨hl, ⟨g_24, hg_g_24, ht_g_24, hP⟩, hS⟩ := hI
      have hD : va_D (kAB b v s.heap.size) ([(b, .inr (1, [.ref v, .int 0, .int tm, .int (iZ (((n : Nat) : Int)))])), (v, .inl (dA 2, 16, .inl (fun j => iZ (g_24 j))))] : va_W) := kW_D hbv
      have hq := Aq_le zz.natAbs kk
      have hge := K1_ge hk
      have hge2 := Aq_ge (a := zz.natAbs) (k := kk) (by omega)
      have hqs : Aq zz.natAbs (kk + 1) = Aq zz.natAbs kk / 100 := rfl
      refine lv_lload_n hx hb dJ13_getChars_11360_24 rfl (lv_at hl 0 rfl) ?_
      refine lv_ldc2 (v := lZ (-2147483648)) hx hb hown (hts _ (List.mem_cons_of_mem _ mw1280)) dJ13_getChars_11360_25 ?_
      refine kz_lcmp_gt (tgt := 82) hx hb (by omega) (by omega) dJ13_getChars_11360_28 dJ13_getChars_11360_29 (by decide) (fun c_25 => absurd c_25 (by omega)) (fun c_25 => ?_)
      refine lv_lload_n hx hb dJ13_getChars_11360_32 rfl (lv_at hl 0 rfl) ?_
      refine lv_ldc2 (v := lZ 100) hx hb hown (hts _ (List.mem_cons_of_mem _ mw1281)) dJ13_getChars_11360_33 ?_
      refine kz_ldiv hx hb (by omega) (by omega) dJ13_getChars_11360_36 ?_
      refine W.eq (g2 := F0 m 37 ls [.long (lZ (-((Aq zz.natAbs (kk + 1) : Nat) : Int)))]) (by rw [show (tq (-((Aq zz.natAbs (kk) : Nat) : Int)) 100) = -((Aq zz.natAbs (kk + 1) : Nat) : Int) from tq_n100 _]; try rfl) ?_
      refine lv_lstore (lv' := [(4, .long (lZ (-((Aq zz.natAbs (kk + 1) : Nat) : Int)))), (0, .long (lZ (-((Aq zz.natAbs (kk) : Nat) : Int)))), (7, .int (iZ (((TL zz - 2 * (kk) : Nat) : Int)))), (8, .int (iZ 1)), (2, .int (iZ (((TL zz : Nat) : Int)))), (3, .ref v)]) hx hb dJ13_getChars_11360_37 hl (by decide) rfl (fun ls hl => ?_)
      refine lv_lload hx hb dJ13_getChars_11360_39 (lv_at hl 0 rfl) ?_
      refine lv_ldc2 (v := lZ 100) hx hb hown (hts _ (List.mem_cons_of_mem _ mw1281)) dJ13_getChars_11360_41 ?_
      refine kz_lmul hx hb dJ13_getChars_11360_44 ?_
      refine lv_lload_n hx hb dJ13_getChars_11360_45 rfl (lv_at hl 1 rfl) ?_
      refine kz_lsub hx hb dJ13_getChars_11360_46 ?_
      refine kz_l2i hx hb dJ13_getChars_11360_47 ?_
      refine W.eq (g2 := F0 m 48 ls [.int (iZ (((Aq zz.natAbs kk % 100 : Nat) : Int)))]) (by rw [show (((-((Aq zz.natAbs (kk + 1) : Nat) : Int)) * 100) - (-((Aq zz.natAbs (kk) : Nat) : Int))) = ((Aq zz.natAbs kk % 100 : Nat) : Int) from by omega]; try rfl) ?_
      refine lv_istore (lv' := [(6, .int (iZ (((Aq zz.natAbs kk % 100 : Nat) : Int)))), (4, .long (lZ (-((Aq zz.natAbs (kk + 1) : Nat) : Int)))), (0, .long (lZ (-((Aq zz.natAbs (kk) : Nat) : Int)))), (7, .int (iZ (((TL zz - 2 * (kk) : Nat) : Int)))), (8, .int (iZ 1)), (2, .int (iZ (((TL zz : Nat) : Int)))), (3, .ref v)]) hx hb dJ13_getChars_11360_48 hl (by decide) rfl (fun ls hl => ?_)
      refine lv_lload hx hb dJ13_getChars_11360_50 (lv_at hl 1 rfl) ?_
      refine lv_lstore_n (lv' := [(0, .long (lZ (-((Aq zz.natAbs (kk + 1) : Nat) : Int)))), (6, .int (iZ (((Aq zz.natAbs kk % 100 : Nat) : Int)))), (4, .long (lZ (-((Aq zz.natAbs (kk + 1) : Nat) : Int)))), (7, .int (iZ (((TL zz - 2 * (kk) : Nat) : Int)))), (8, .int (iZ 1)), (2, .int (iZ (((TL zz : Nat) : Int)))), (3, .ref v)]) hx hb dJ13_getChars_11360_52 rfl hl (by decide) rfl (fun ls hl => ?_)
      refine lv_aload_n hx hb dJ13_getChars_11360_53 rfl (lv_at hl 6 rfl) ?_
      refine lv_iinc (v := iZ ((((TL zz - 2 * (kk) : Nat) : Int)) - 1)) (lv' := [(7, .int (iZ ((((TL zz - 2 * (kk) : Nat) : Int)) - 1))), (0, .long (lZ (-((Aq zz.natAbs (kk + 1) : Nat) : Int)))), (6, .int (iZ (((Aq zz.natAbs kk % 100 : Nat) : Int)))), (4, .long (lZ (-((Aq zz.natAbs (kk + 1) : Nat) : Int)))), (8, .int (iZ 1)), (2, .int (iZ (((TL zz : Nat) : Int)))), (3, .ref v)]) hx hb dJ13_getChars_11360_54 hl (k := 3) rfl (by rw [show Int32.ofInt (-1) = iZ (-1) from rfl, iZ_add]; exact congrArg iZ (by omega)) (by decide) rfl (fun ls hl => ?_)
      refine lv_iload hx hb dJ13_getChars_11360_57 (lv_at hl 0 rfl) ?_
      refine va_gets (v := .ref (k 5)) hx hb hM.2.2.1 (kSN hS hAN) hown (hts _ (List.mem_cons_of_mem _ mw1282)) (fun _ h9 => h9) dJ13_getChars_11360_59 ?_
      refine lv_iload hx hb dJ13_getChars_11360_62 (lv_at hl 2 rfl) ?_
      refine kz_btab (v := 48 + ((((Aq zz.natAbs kk % 100 : Nat) : Int))) % 10) hx hb hM.2.2.2.1 (kSN hS hAN) (by omega) (by decide) (kdig_5 (by omega)) dJ13_getChars_11360_64 ?_
      refine kz_bast hx hb hM.1.1 hP hD hS 1 rfl (by omega) (by omega) (by omega) dJ13_getChars_11360_65 (fun H locs hP hD hS => ?_)
      have hP : va_P (dC, dI) vwCl ([(b, .inr (1, [.ref v, .int 0, .int tm, .int (iZ (((n : Nat) : Int)))])), (v, .inl (dA 2, 16, .inl (fun j => iZ ((gu g_24 (((((TL zz - 2 * (kk) : Nat) : Int)) - 1)).toNat ((48 + ((((Aq zz.natAbs kk % 100 : Nat) : Int))) % 10))) j))))] : va_W) _ := hP
      have hD : va_D (kAB b v s.heap.size) ([(b, .inr (1, [.ref v, .int 0, .int tm, .int (iZ (((n : Nat) : Int)))])), (v, .inl (dA 2, 16, .inl (fun j => iZ ((gu g_24 (((((TL zz - 2 * (kk) : Nat) : Int)) - 1)).toNat ((48 + ((((Aq zz.natAbs kk % 100 : Nat) : Int))) % 10))) j))))] : va_W) := hD
      refine lv_aload_n hx hb dJ13_getChars_11360_66 rfl (lv_at hl 6 rfl) ?_
      refine lv_iinc (v := iZ (((((TL zz - 2 * (kk) : Nat) : Int)) - 1) - 1)) (lv' := [(7, .int (iZ (((((TL zz - 2 * (kk) : Nat) : Int)) - 1) - 1))), (0, .long (lZ (-((Aq zz.natAbs (kk + 1) : Nat) : Int)))), (6, .int (iZ (((Aq zz.natAbs kk % 100 : Nat) : Int)))), (4, .long (lZ (-((Aq zz.natAbs (kk + 1) : Nat) : Int)))), (8, .int (iZ 1)), (2, .int (iZ (((TL zz : Nat) : Int)))), (3, .ref v)]) hx hb dJ13_getChars_11360_67 hl (k := 0) rfl (by rw [show Int32.ofInt (-1) = iZ (-1) from rfl, iZ_add]; exact congrArg iZ (by omega)) (by decide) rfl (fun ls hl => ?_)
      refine lv_iload hx hb dJ13_getChars_11360_70 (lv_at hl 0 rfl) ?_
      refine va_gets (v := .ref (k 6)) hx hb hM.2.2.2.2.1 (kSN hS hAN) hown (hts _ (List.mem_cons_of_mem _ mw1283)) (fun _ h9 => h9) dJ13_getChars_11360_72 ?_
      refine lv_iload hx hb dJ13_getChars_11360_75 (lv_at hl 2 rfl) ?_
      refine kz_btab (v := 48 + ((((Aq zz.natAbs kk % 100 : Nat) : Int))) / 10) hx hb hM.2.2.2.2.2.1 (kSN hS hAN) (by omega) (by decide) (kdig_6 (by omega)) dJ13_getChars_11360_77 ?_
      refine kz_bast hx hb hM.1.1 hP hD hS 1 rfl (by omega) (by omega) (by omega) dJ13_getChars_11360_78 (fun H locs hP hD hS => ?_)
      have hP : va_P (dC, dI) vwCl ([(b, .inr (1, [.ref v, .int 0, .int tm, .int (iZ (((n : Nat) : Int)))])), (v, .inl (dA 2, 16, .inl (fun j => iZ ((gu (gu g_24 (((((TL zz - 2 * (kk) : Nat) : Int)) - 1)).toNat ((48 + ((((Aq zz.natAbs kk % 100 : Nat) : Int))) % 10))) ((((((TL zz - 2 * (kk) : Nat) : Int)) - 1) - 1)).toNat ((48 + ((((Aq zz.natAbs kk % 100 : Nat) : Int))) / 10))) j))))] : va_W) _ := hP
      have hD : va_D (kAB b v s.heap.size) ([(b, .inr (1, [.ref v, .int 0, .int tm, .int (iZ (((n : Nat) : Int)))])), (v, .inl (dA 2, 16, .inl (fun j => iZ ((gu (gu g_24 (((((TL zz - 2 * (kk) : Nat) : Int)) - 1)).toNat ((48 + ((((Aq zz.natAbs kk % 100 : Nat) : Int))) % 10))) ((((((TL zz - 2 * (kk) : Nat) : Int)) - 1) - 1)).toNat ((48 + ((((Aq zz.natAbs kk % 100 : Nat) : Int))) / 10))) j))))] : va_W) := hD
      refine lv_goto (tgt := 24) hx hb dJ13_getChars_11360_79 (by decide) ?_
      exact ih _ _ ls ⟨by have h9 := lv_sub hl [1, 0, 4, 5, 6] rfl; rw [show ((TL zz - 2 * (kk) : Nat) : Int) - 1 - 1 = ((TL zz - 2 * (kk + 1) : Nat) : Int) from by omega] at h9; exact h9, ⟨_, kG_gu (kG_gu hg_g_24 (by omega)) (by omega), (by rw [show TL zz - 2 * (kk + 1) = TL zz - 2 * (kk) - 1 - 1 from by omega]; exact gtcast (GT_step (i := TL zz - 2 * (kk) - 1 - 1) (GT_step (i := TL zz - 2 * (kk) - 1) ht_g_24 (by omega) (by rw [TX_o (k := kk) (by omega) (by omega)]; omega)) (by omega) (by rw [TX_t (k := kk) (by omega) (by omega)]; omega)) (by omega) (by omega)), hP⟩, hS⟩

