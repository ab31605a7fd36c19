def fx (xs : Nat → Int32) (z : Int) : Int := (xs z.toNat).toInt
theorem fx_rng (xs : Nat → Int32) (z : Int) : -2147483648 ≤ fx xs z ∧ fx xs z < 2147483648 := ⟨Int32.le_toInt _, Int32.toInt_lt _⟩
theorem fx_iZ (xs : Nat → Int32) (z : Int) : iZ (fx xs z) = xs z.toNat := by unfold fx iZ; exact Int32.ofInt_toInt _
theorem ex2_rng (A B : Bool) : -2147483648 ≤ ex2 A B ∧ ex2 A B < 2147483648 := by cases A <;> cases B <;> decide
theorem w32_lrng (x : Int) : -9223372036854775808 ≤ w32 x ∧ w32 x < 9223372036854775808 := by have := w32_rng x; omega
theorem bZ_lrng (x : Bool) : -9223372036854775808 ≤ bZ x ∧ bZ x < 9223372036854775808 := by cases x <;> decide
theorem kif_same {α : Type} {P : Prop} [Decidable P] (x : α) : (if P then x else x) = x := by split <;> rfl
def kOK8 (σ σ' : Nat → Nat → Int) : Prop := kOK σ' ∧ σ' 8 0 = σ 8 0
theorem k8_if {σ S : Nat → Nat → Int} {P : Prop} [Decidable P] (h : kOK σ) (h2 : P → kOK8 σ S) : kOK8 σ (if P then S else σ) := by
  split
  · rename_i h9; exact h2 h9
  · exact ⟨h, rfl⟩
theorem k8_leaf {σ : Nat → Nat → Int} (h : kOK σ) {j : Nat} {y m : Int} (hy : -999999999 ≤ y ∧ y ≤ 999999999) (hm : 1 ≤ m ∧ m ≤ 12) : kOK8 σ (sU (sU σ 0 j y) 1 j m) := ⟨kOK_leaf h hy hm, by simp [sU]⟩
theorem k8_year {σ : Nat → Nat → Int} (h : kOK σ) {j : Nat} {y : Int} (hy : -999999999 ≤ y ∧ y ≤ 999999999) : kOK8 σ (sU σ 2 j y) := ⟨kOK_year h hy, by simp [sU]⟩
theorem k8_feast {σ : Nat → Nat → Int} (h : kOK σ) {j : Nat} {m d : Int} (hm : 1 ≤ m ∧ m ≤ 12) (hd : 1 ≤ d ∧ d ≤ mlen true m) : kOK8 σ (sU (sU σ 3 j m) 4 j d) := ⟨kOK_feast h hm hd, by simp [sU]⟩
theorem k8_day {σ : Nat → Nat → Int} (h : kOK σ) {j : Nat} {y m d : Int} (hy : -999999999 ≤ y ∧ y ≤ 999999999) (hm : 1 ≤ m ∧ m ≤ 12) (hd : 1 ≤ d ∧ d ≤ mlen (leap y) m) : kOK8 σ (setD σ j y m d) := ⟨kOK_day h hy hm hd, by simp [setD, sU]⟩
theorem k8_putLs {σ : Nat → Nat → Int} (h : kOK σ) {j : Nat} {cn : Int} : kOK8 σ (putLs σ j cn) := by
  unfold putLs
  split
  · rename_i h9
    have h9 := inb_t h9
    exact k8_leaf h (by unfold yearOf; omega) (monOf_rng cn)
  · exact ⟨h, rfl⟩
theorem k8_putYs {σ : Nat → Nat → Int} (h : kOK σ) {j : Nat} {y : Int} : kOK8 σ (putYs σ j y) := by
  unfold putYs
  split
  · rename_i h9
    exact k8_year h (inb_t h9)
  · exact ⟨h, rfl⟩
theorem k8_putFs {σ : Nat → Nat → Int} (h : kOK σ) {j : Nat} {m d : Int} (hm : 1 ≤ m ∧ m ≤ 12) (hd : 1 ≤ d) : kOK8 σ (putFs σ j m d) := by
  unfold putFs
  split
  · rename_i h9
    exact k8_feast h hm ⟨hd, of_decide_eq_true h9⟩
  · exact ⟨h, rfl⟩
theorem k8_lwS {σ : Nat → Nat → Int} (h : kOK σ) {j : Nat} (hj : j < 4) {w v : Int} (hv : w = 0 → 1 ≤ v ∧ v ≤ 12) : kOK8 σ (lwS σ j w v) := by
  unfold lwS
  have o1 := kOKr h hj
  split
  · exact k8_putLs h
  · split
    · rename_i h9
      exact k8_leaf h (by omega) (hv h9)
    · exact k8_putLs h
theorem k8m_leaf {σ : Nat → Nat → Int} (hOK : kOK σ) (z1 : Int) (yy : Int) (mo : Int) (h0 : ex2 (!inb z1 0 3) (!inb yy (-999999999) 999999999 || !inb mo 1 12) = 0) : kOK8 σ (sU (sU σ 0 z1.toNat yy) 1 z1.toNat mo) := by
  obtain ⟨ga, gb⟩ := ex2_z h0
  simp only [inb, noThing_iff, noThing_niff, Bool.not_eq_true', Bool.not_eq_false', Bool.or_eq_true, Bool.or_eq_false_iff, decide_eq_true_eq, decide_eq_false_iff_not] at ga gb
  exact k8_leaf hOK (by omega) (by omega)
theorem k8m_leafRound {σ : Nat → Nat → Int} (hOK : kOK σ) (z1 : Int) (yy : Int) (mm : Int) (h0 : ex2 (!inb z1 0 3) (!inb yy (-999999999) 999999999) = 0) : kOK8 σ (sU (sU σ 0 z1.toNat yy) 1 z1.toNat (1 + mm % 12)) := by
  obtain ⟨ga, gb⟩ := ex2_z h0
  simp only [inb, noThing_iff, noThing_niff, Bool.not_eq_true', Bool.not_eq_false', Bool.or_eq_true, Bool.or_eq_false_iff, decide_eq_true_eq, decide_eq_false_iff_not] at ga gb
  exact k8_leaf hOK (by omega) (by omega)
theorem k8m_months {σ : Nat → Nat → Int} (hOK : kOK σ) (z1 : Int) (mm : Int) (bb : Bool) (h0 : ex2 (!inb z1 0 3) (false) = 0) : kOK8 σ (putLs σ (z1.toNat) (cnt (σ 0 (z1.toNat)) (σ 1 (z1.toNat)) + sgn mm bb)) := by
  obtain ⟨ga, gb⟩ := ex2_z h0
  simp only [inb, noThing_iff, noThing_niff, Bool.not_eq_true', Bool.not_eq_false', Bool.or_eq_true, Bool.or_eq_false_iff, decide_eq_true_eq, decide_eq_false_iff_not] at ga gb
  exact k8_putLs hOK
theorem k8m_years {σ : Nat → Nat → Int} (hOK : kOK σ) (z1 : Int) (mm : Int) (bb : Bool) (h0 : ex2 (!inb z1 0 3) (false) = 0) : kOK8 σ (putLs σ (z1.toNat) (cnt (σ 0 (z1.toNat)) (σ 1 (z1.toNat)) + sgn (12 * mm) bb)) := by
  obtain ⟨ga, gb⟩ := ex2_z h0
  simp only [inb, noThing_iff, noThing_niff, Bool.not_eq_true', Bool.not_eq_false', Bool.or_eq_true, Bool.or_eq_false_iff, decide_eq_true_eq, decide_eq_false_iff_not] at ga gb
  exact k8_putLs hOK
theorem k8m_units {σ : Nat → Nat → Int} (hOK : kOK σ) (z1 : Int) (uu : Int) (mm : Int) (bb : Bool) (h0 : ex2 (!inb z1 0 3) (!inb uu 0 4) = 0) : kOK8 σ (putLs σ (z1.toNat) (cnt (σ 0 (z1.toNat)) (σ 1 (z1.toNat)) + sgn (mm * usize uu) bb)) := by
  obtain ⟨ga, gb⟩ := ex2_z h0
  simp only [inb, noThing_iff, noThing_niff, Bool.not_eq_true', Bool.not_eq_false', Bool.or_eq_true, Bool.or_eq_false_iff, decide_eq_true_eq, decide_eq_false_iff_not] at ga gb
  exact k8_putLs hOK
theorem k8m_both {σ : Nat → Nat → Int} (hOK : kOK σ) (z1 : Int) (yy : Int) (mm : Int) (bb : Bool) (h0 : ex2 (!inb z1 0 3) (!inb yy (-99999999) 99999999 || !inb mm (-99999999) 99999999) = 0) : kOK8 σ (putLs σ (z1.toNat) (cnt (σ 0 (z1.toNat)) (σ 1 (z1.toNat)) + sgn (12 * yy + mm) bb)) := by
  obtain ⟨ga, gb⟩ := ex2_z h0
  simp only [inb, noThing_iff, noThing_niff, Bool.not_eq_true', Bool.not_eq_false', Bool.or_eq_true, Bool.or_eq_false_iff, decide_eq_true_eq, decide_eq_false_iff_not] at ga gb
  exact k8_putLs hOK
theorem k8m_leafYear {σ : Nat → Nat → Int} (hOK : kOK σ) (z1 : Int) (yy : Int) (h0 : ex2 (!inb z1 0 3) (!inb yy (-999999999) 999999999) = 0) : kOK8 σ (sU (sU σ 0 z1.toNat yy) 1 z1.toNat (σ 1 (z1.toNat))) := by
  obtain ⟨ga, gb⟩ := ex2_z h0
  simp only [inb, noThing_iff, noThing_niff, Bool.not_eq_true', Bool.not_eq_false', Bool.or_eq_true, Bool.or_eq_false_iff, decide_eq_true_eq, decide_eq_false_iff_not] at ga gb
  have o1 := kOKr hOK (show z1.toNat < 4 by omega)
  exact k8_leaf hOK (by omega) (by omega)
theorem k8m_leafMonth {σ : Nat → Nat → Int} (hOK : kOK σ) (z1 : Int) (mo : Int) (h0 : ex2 (!inb z1 0 3) (!inb mo 1 12) = 0) : kOK8 σ (sU (sU σ 0 z1.toNat (σ 0 (z1.toNat))) 1 z1.toNat mo) := by
  obtain ⟨ga, gb⟩ := ex2_z h0
  simp only [inb, noThing_iff, noThing_niff, Bool.not_eq_true', Bool.not_eq_false', Bool.or_eq_true, Bool.or_eq_false_iff, decide_eq_true_eq, decide_eq_false_iff_not] at ga gb
  have o1 := kOKr hOK (show z1.toNat < 4 by omega)
  exact k8_leaf hOK (by omega) (by omega)
theorem k8m_leafWith {σ : Nat → Nat → Int} (hOK : kOK σ) (z1 : Int) (w0 : Int) (v0 : Int) (h0 : ex2 (!inb z1 0 3) (!inb w0 0 4 || noThing w0 v0) = 0) : kOK8 σ (lwS σ (z1.toNat) w0 v0) := by
  obtain ⟨ga, gb⟩ := ex2_z h0
  simp only [inb, noThing_iff, noThing_niff, Bool.not_eq_true', Bool.not_eq_false', Bool.or_eq_true, Bool.or_eq_false_iff, decide_eq_true_eq, decide_eq_false_iff_not] at ga gb
  exact k8_lwS hOK (show z1.toNat < 4 by omega) (fun h => by omega)
theorem k8m_leafOf {σ : Nat → Nat → Int} (hOK : kOK σ) (z1 : Int) (z2 : Int) (mo : Int) (h0 : ex2 (!inb z1 0 3 || !inb z2 0 3) (!inb mo 1 12) = 0) : kOK8 σ (sU (sU σ 0 z1.toNat (σ 2 (z2.toNat))) 1 z1.toNat mo) := by
  obtain ⟨ga, gb⟩ := ex2_z h0
  simp only [inb, noThing_iff, noThing_niff, Bool.not_eq_true', Bool.not_eq_false', Bool.or_eq_true, Bool.or_eq_false_iff, decide_eq_true_eq, decide_eq_false_iff_not] at ga gb
  have o2 := kOKr hOK (show z2.toNat < 4 by omega)
  exact k8_leaf hOK (by omega) (by omega)
theorem k8m_leafOfRound {σ : Nat → Nat → Int} (hOK : kOK σ) (z1 : Int) (z2 : Int) (mm : Int) (h0 : ex2 (!inb z1 0 3 || !inb z2 0 3) (false) = 0) : kOK8 σ (sU (sU σ 0 z1.toNat (σ 2 (z2.toNat))) 1 z1.toNat (1 + mm % 12)) := by
  obtain ⟨ga, gb⟩ := ex2_z h0
  simp only [inb, noThing_iff, noThing_niff, Bool.not_eq_true', Bool.not_eq_false', Bool.or_eq_true, Bool.or_eq_false_iff, decide_eq_true_eq, decide_eq_false_iff_not] at ga gb
  have o2 := kOKr hOK (show z2.toNat < 4 by omega)
  exact k8_leaf hOK (by omega) (by omega)
theorem k8m_leafOfDay {σ : Nat → Nat → Int} (hOK : kOK σ) (z1 : Int) (z2 : Int) (h0 : ex2 (!inb z1 0 3 || !inb z2 0 3) (false) = 0) : kOK8 σ (sU (sU σ 0 z1.toNat (σ 5 (z2.toNat))) 1 z1.toNat (σ 6 (z2.toNat))) := by
  obtain ⟨ga, gb⟩ := ex2_z h0
  simp only [inb, noThing_iff, noThing_niff, Bool.not_eq_true', Bool.not_eq_false', Bool.or_eq_true, Bool.or_eq_false_iff, decide_eq_true_eq, decide_eq_false_iff_not] at ga gb
  have o2 := kOKr hOK (show z2.toNat < 4 by omega)
  exact k8_leaf hOK (by omega) (by omega)
theorem k8m_leafLike {σ : Nat → Nat → Int} (hOK : kOK σ) (z1 : Int) (z2 : Int) (h0 : ex2 (!inb z1 0 3 || !inb z2 0 3) (false) = 0) : kOK8 σ (sU (sU σ 0 z1.toNat (σ 0 (z2.toNat))) 1 z1.toNat (σ 1 (z2.toNat))) := by
  obtain ⟨ga, gb⟩ := ex2_z h0
  simp only [inb, noThing_iff, noThing_niff, Bool.not_eq_true', Bool.not_eq_false', Bool.or_eq_true, Bool.or_eq_false_iff, decide_eq_true_eq, decide_eq_false_iff_not] at ga gb
  have o2 := kOKr hOK (show z2.toNat < 4 by omega)
  exact k8_leaf hOK (by omega) (by omega)
theorem k8m_year {σ : Nat → Nat → Int} (hOK : kOK σ) (z1 : Int) (yy : Int) (h0 : ex2 (!inb z1 0 3) (!inb yy (-999999999) 999999999) = 0) : kOK8 σ (sU σ 2 z1.toNat yy) := by
  obtain ⟨ga, gb⟩ := ex2_z h0
  simp only [inb, noThing_iff, noThing_niff, Bool.not_eq_true', Bool.not_eq_false', Bool.or_eq_true, Bool.or_eq_false_iff, decide_eq_true_eq, decide_eq_false_iff_not] at ga gb
  exact k8_year hOK (by omega)
theorem k8m_later {σ : Nat → Nat → Int} (hOK : kOK σ) (z1 : Int) (mm : Int) (bb : Bool) (h0 : ex2 (!inb z1 0 3) (false) = 0) : kOK8 σ (putYs σ (z1.toNat) (σ 2 (z1.toNat) + sgn mm bb)) := by
  obtain ⟨ga, gb⟩ := ex2_z h0
  simp only [inb, noThing_iff, noThing_niff, Bool.not_eq_true', Bool.not_eq_false', Bool.or_eq_true, Bool.or_eq_false_iff, decide_eq_true_eq, decide_eq_false_iff_not] at ga gb
  exact k8_putYs hOK
theorem k8m_yearUnits {σ : Nat → Nat → Int} (hOK : kOK σ) (z1 : Int) (uu : Int) (mm : Int) (bb : Bool) (h0 : ex2 (!inb z1 0 3) (!inb uu 1 4) = 0) : kOK8 σ (putYs σ (z1.toNat) (σ 2 (z1.toNat) + sgn (mm * yus uu) bb)) := by
  obtain ⟨ga, gb⟩ := ex2_z h0
  simp only [inb, noThing_iff, noThing_niff, Bool.not_eq_true', Bool.not_eq_false', Bool.or_eq_true, Bool.or_eq_false_iff, decide_eq_true_eq, decide_eq_false_iff_not] at ga gb
  exact k8_putYs hOK
theorem k8m_yearWith {σ : Nat → Nat → Int} (hOK : kOK σ) (z1 : Int) (w0 : Int) (v0 : Int) (h0 : ex2 (!inb z1 0 3) (!inb w0 0 2 || noThing (w0 + 1) v0) = 0) : kOK8 σ (putYs σ (z1.toNat) (ywt (σ 2 (z1.toNat)) w0 v0)) := by
  obtain ⟨ga, gb⟩ := ex2_z h0
  simp only [inb, noThing_iff, noThing_niff, Bool.not_eq_true', Bool.not_eq_false', Bool.or_eq_true, Bool.or_eq_false_iff, decide_eq_true_eq, decide_eq_false_iff_not] at ga gb
  exact k8_putYs hOK
theorem k8m_yearOf {σ : Nat → Nat → Int} (hOK : kOK σ) (z1 : Int) (bb : Bool) (z2 : Int) (h0 : ex2 (!inb z1 0 3 || !inb z2 0 3) (false) = 0) : kOK8 σ (sU σ 2 (z1.toNat) (if bb = true then σ 5 (z2.toNat) else σ 0 (z2.toNat))) := by
  obtain ⟨ga, gb⟩ := ex2_z h0
  simp only [inb, noThing_iff, noThing_niff, Bool.not_eq_true', Bool.not_eq_false', Bool.or_eq_true, Bool.or_eq_false_iff, decide_eq_true_eq, decide_eq_false_iff_not] at ga gb
  have o2 := kOKr hOK (show z2.toNat < 4 by omega)
  exact k8_year hOK (by split <;> omega)
theorem k8m_yearLike {σ : Nat → Nat → Int} (hOK : kOK σ) (z1 : Int) (z2 : Int) (h0 : ex2 (!inb z1 0 3 || !inb z2 0 3) (false) = 0) : kOK8 σ (sU σ 2 (z1.toNat) (σ 2 (z2.toNat))) := by
  obtain ⟨ga, gb⟩ := ex2_z h0
  simp only [inb, noThing_iff, noThing_niff, Bool.not_eq_true', Bool.not_eq_false', Bool.or_eq_true, Bool.or_eq_false_iff, decide_eq_true_eq, decide_eq_false_iff_not] at ga gb
  have o2 := kOKr hOK (show z2.toNat < 4 by omega)
  exact k8_year hOK (by omega)
theorem k8m_feast {σ : Nat → Nat → Int} (hOK : kOK σ) (z1 : Int) (mo : Int) (dd : Int) (h0 : ex2 (!inb z1 0 3) (!inb mo 1 12 || !inb dd 1 31) = 0) : kOK8 σ (putFs σ (z1.toNat) mo dd) := by
  obtain ⟨ga, gb⟩ := ex2_z h0
  simp only [inb, noThing_iff, noThing_niff, Bool.not_eq_true', Bool.not_eq_false', Bool.or_eq_true, Bool.or_eq_false_iff, decide_eq_true_eq, decide_eq_false_iff_not] at ga gb
  exact k8_putFs hOK (by omega) (by omega)
theorem k8m_feastRound {σ : Nat → Nat → Int} (hOK : kOK σ) (z1 : Int) (mm : Int) (dd : Int) (h0 : ex2 (!inb z1 0 3) (!inb dd 1 31) = 0) : kOK8 σ (putFs σ (z1.toNat) (1 + mm % 12) dd) := by
  obtain ⟨ga, gb⟩ := ex2_z h0
  simp only [inb, noThing_iff, noThing_niff, Bool.not_eq_true', Bool.not_eq_false', Bool.or_eq_true, Bool.or_eq_false_iff, decide_eq_true_eq, decide_eq_false_iff_not] at ga gb
  exact k8_putFs hOK (by omega) (by omega)
theorem k8m_feastMonth {σ : Nat → Nat → Int} (hOK : kOK σ) (z1 : Int) (mo : Int) (bb : Bool) (h0 : ex2 (!inb z1 0 3) (!inb mo 1 12) = 0) : kOK8 σ (putFs σ (z1.toNat) mo (mn2 (σ 4 (z1.toNat)) (mlen true mo))) := by
  obtain ⟨ga, gb⟩ := ex2_z h0
  simp only [inb, noThing_iff, noThing_niff, Bool.not_eq_true', Bool.not_eq_false', Bool.or_eq_true, Bool.or_eq_false_iff, decide_eq_true_eq, decide_eq_false_iff_not] at ga gb
  have o1 := kOKr hOK (show z1.toNat < 4 by omega)
  have l1 := mlen_rng true mo
  exact k8_putFs hOK (by omega) (by unfold mn2; split <;> omega)
theorem k8m_feastDay {σ : Nat → Nat → Int} (hOK : kOK σ) (z1 : Int) (dd : Int) (bb : Bool) (h0 : ex2 (!inb z1 0 3) (!inb dd 1 31) = 0) : kOK8 σ (putFs σ (z1.toNat) (σ 3 (z1.toNat)) dd) := by
  obtain ⟨ga, gb⟩ := ex2_z h0
  simp only [inb, noThing_iff, noThing_niff, Bool.not_eq_true', Bool.not_eq_false', Bool.or_eq_true, Bool.or_eq_false_iff, decide_eq_true_eq, decide_eq_false_iff_not] at ga gb
  have o1 := kOKr hOK (show z1.toNat < 4 by omega)
  exact k8_putFs hOK (by omega) (by omega)
theorem k8m_feastOf {σ : Nat → Nat → Int} (hOK : kOK σ) (z1 : Int) (z2 : Int) (h0 : ex2 (!inb z1 0 3 || !inb z2 0 3) (false) = 0) : kOK8 σ (putFs σ (z1.toNat) (σ 6 (z2.toNat)) (σ 7 (z2.toNat))) := by
  obtain ⟨ga, gb⟩ := ex2_z h0
  simp only [inb, noThing_iff, noThing_niff, Bool.not_eq_true', Bool.not_eq_false', Bool.or_eq_true, Bool.or_eq_false_iff, decide_eq_true_eq, decide_eq_false_iff_not] at ga gb
  have o2 := kOKr hOK (show z2.toNat < 4 by omega)
  exact k8_putFs hOK (by omega) (by omega)
theorem k8m_feastLike {σ : Nat → Nat → Int} (hOK : kOK σ) (z1 : Int) (z2 : Int) (h0 : ex2 (!inb z1 0 3 || !inb z2 0 3) (false) = 0) : kOK8 σ (sU (sU σ 3 (z1.toNat) (σ 3 (z2.toNat))) 4 (z1.toNat) (σ 4 (z2.toNat))) := by
  obtain ⟨ga, gb⟩ := ex2_z h0
  simp only [inb, noThing_iff, noThing_niff, Bool.not_eq_true', Bool.not_eq_false', Bool.or_eq_true, Bool.or_eq_false_iff, decide_eq_true_eq, decide_eq_false_iff_not] at ga gb
  have o2 := kOKr hOK (show z2.toNat < 4 by omega)
  exact k8_feast hOK (by omega) ⟨by omega, (hOK _ (show z2.toNat < 4 by omega)).2.2.1.2.2.2⟩
theorem k8m_dayAt {σ : Nat → Nat → Int} (hOK : kOK σ) (z1 : Int) (z2 : Int) (nn : Int) (h0 : ex2 (!inb z1 0 3 || !inb z2 0 3) (!inb nn 1 31) = 0) : kOK8 σ (if nn ≤ mlen (leap (σ 0 (z2.toNat))) (σ 1 (z2.toNat)) then setD σ (z1.toNat) (σ 0 (z2.toNat)) (σ 1 (z2.toNat)) nn else σ) := by
  obtain ⟨ga, gb⟩ := ex2_z h0
  simp only [inb, noThing_iff, noThing_niff, Bool.not_eq_true', Bool.not_eq_false', Bool.or_eq_true, Bool.or_eq_false_iff, decide_eq_true_eq, decide_eq_false_iff_not] at ga gb
  have o2 := kOKr hOK (show z2.toNat < 4 by omega)
  split
  · rename_i h9; exact k8_day hOK (by omega) (by omega) ⟨by omega, h9⟩
  · exact ⟨hOK, rfl⟩
theorem k8m_dayEnd {σ : Nat → Nat → Int} (hOK : kOK σ) (z1 : Int) (z2 : Int) (h0 : ex2 (!inb z1 0 3 || !inb z2 0 3) (false) = 0) : kOK8 σ (setD σ (z1.toNat) (σ 0 (z2.toNat)) (σ 1 (z2.toNat)) (mlen (leap (σ 0 (z2.toNat))) (σ 1 (z2.toNat)))) := by
  obtain ⟨ga, gb⟩ := ex2_z h0
  simp only [inb, noThing_iff, noThing_niff, Bool.not_eq_true', Bool.not_eq_false', Bool.or_eq_true, Bool.or_eq_false_iff, decide_eq_true_eq, decide_eq_false_iff_not] at ga gb
  have o2 := kOKr hOK (show z2.toNat < 4 by omega)
  have l1 := mlen_rng (leap (σ 0 z2.toNat)) (σ 1 z2.toNat)
  exact k8_day hOK (by omega) (by omega) ⟨by omega, Int.le_refl _⟩
theorem k8m_dayInYear {σ : Nat → Nat → Int} (hOK : kOK σ) (z1 : Int) (z2 : Int) (pl : Int) (h0 : ex2 (!inb z1 0 3 || !inb z2 0 3) (!inb pl 1 366) = 0) : kOK8 σ (if pl ≤ ylen (σ 2 (z2.toNat)) then setD σ (z1.toNat) (σ 2 (z2.toNat)) (mop (leap (σ 2 (z2.toNat))) pl) (pl - ahead (leap (σ 2 (z2.toNat))) (mop (leap (σ 2 (z2.toNat))) pl)) else σ) := by
  obtain ⟨ga, gb⟩ := ex2_z h0
  simp only [inb, noThing_iff, noThing_niff, Bool.not_eq_true', Bool.not_eq_false', Bool.or_eq_true, Bool.or_eq_false_iff, decide_eq_true_eq, decide_eq_false_iff_not] at ga gb
  have o2 := kOKr hOK (show z2.toNat < 4 by omega)
  split
  · rename_i h9; have h8 := mop_ok (y := σ 2 z2.toNat) (p := pl) ⟨by omega, h9⟩; exact k8_day hOK (by omega) h8.1 h8.2
  · exact ⟨hOK, rfl⟩
theorem k8m_dayOfFeast {σ : Nat → Nat → Int} (hOK : kOK σ) (z1 : Int) (z2 : Int) (yy : Int) (h0 : ex2 (!inb z1 0 3 || !inb z2 0 3) (!inb yy (-999999999) 999999999) = 0) : kOK8 σ (setD σ (z1.toNat) yy (σ 3 (z2.toNat)) (dayIn σ (z2.toNat) yy)) := by
  obtain ⟨ga, gb⟩ := ex2_z h0
  simp only [inb, noThing_iff, noThing_niff, Bool.not_eq_true', Bool.not_eq_false', Bool.or_eq_true, Bool.or_eq_false_iff, decide_eq_true_eq, decide_eq_false_iff_not] at ga gb
  have o2 := kOKr hOK (show z2.toNat < 4 by omega)
  have h8 := dayIn_ok hOK (show z2.toNat < 4 by omega) yy
  exact k8_day hOK (by omega) (by omega) ⟨h8.1, h8.2.1⟩
theorem k8m_dayOfYear {σ : Nat → Nat → Int} (hOK : kOK σ) (z1 : Int) (z2 : Int) (z3 : Int) (h0 : ex2 ((!inb z1 0 3 || !inb z2 0 3) || !inb z3 0 3) (false) = 0) : kOK8 σ (setD σ (z1.toNat) (σ 2 (z2.toNat)) (σ 3 (z3.toNat)) (dayIn σ (z3.toNat) (σ 2 (z2.toNat)))) := by
  obtain ⟨ga, gb⟩ := ex2_z h0
  simp only [inb, noThing_iff, noThing_niff, Bool.not_eq_true', Bool.not_eq_false', Bool.or_eq_true, Bool.or_eq_false_iff, decide_eq_true_eq, decide_eq_false_iff_not] at ga gb
  have o2 := kOKr hOK (show z2.toNat < 4 by omega)
  have o3 := kOKr hOK (show z3.toNat < 4 by omega)
  have h8 := dayIn_ok hOK (show z3.toNat < 4 by omega) (σ 2 z2.toNat)
  exact k8_day hOK (by omega) (by omega) ⟨h8.1, h8.2.1⟩
def ww_L : List Cond := .initialized RX1 :: gT
/-- what stays in the law -/
def kF (p : Program) (s : State) (m : MethodId) (meth : Method) (c : Code) (b L : Nat) (xs : Nat → Int32) (dC : Nat → ClassId) (dI : Nat → Nat → Nat) (dA : Nat → ClassId) (k : Nat → Nat) : Prop :=
  p.tables.exec = Jvm.exec ∧ c.code = code ∧ meth.sig.returnType = ret ∧ c.maxLocals = 7 ∧ s.vm.findClass RL = some m.cls ∧ (∀ w ∈ ww_L, w.before #[Value.ref b] s = true) ∧ va_X b L xs s s.heap ∧ b < s.heap.size ∧ L ≤ 2560 ∧ kMJ dC dI dA k s ∧ kL s ∧ k 0 = s.heap.size ∧ meth.locks = false
/-- the law's world: the class's object, the reference, the result cell -/
def LI (dC : Nat → ClassId) (dI : Nat → Nat → Nat) (dA : Nat → ClassId) (k q : Nat → Nat) (m0 : Nat) (r : Nat → Nat → Nat) (o : Nat) (σ : Nat → Nat → Int) (th : Int) (H : Heap) : Prop :=
  gX dC dI dA q σ H ∧ kOK σ ∧ kQI q k ∧ va_P (dC, dI) vwCl (kY dA m0 r σ th) H ∧ kRI m0 r k ∧ gO dC dI o (fun _ => True) H ∧ k 0 ≤ o ∧ (∀ i : Nat, i < 9 → q i ≠ o) ∧ (∀ i : Nat, i < 17 → kR m0 r i ≠ o) ∧ (∀ i j : Nat, i < 9 → j < 17 → q i ≠ kR m0 r j)
theorem gX_lt {dC : Nat → ClassId} {dI : Nat → Nat → Nat} {dA : Nat → ClassId} {q : Nat → Nat} {σ : Nat → Nat → Int} {H : Heap} (h : gX dC dI dA q σ H) : ∀ i : Nat, i < 9 → q i < H.size := fun i hi => by
  obtain ⟨tb, tn, tm, -, -, -, hP⟩ := h
  have hl : (kX q dA σ tb (nI tn) tm)[i]? = some ((kX q dA σ tb (nI tn) tm)[i]'hi) := List.getElem?_eq_getElem hi
  obtain ⟨-, a2⟩ := kX_at hl
  have h1 := (hP i _ hl).lt
  rw [a2] at h1
  exact h1
theorem gO_lt {dC : Nat → ClassId} {dI : Nat → Nat → Nat} {o : Nat} {P : Int → Prop} {H : Heap} (h : gO dC dI o P H) : o < H.size := by
  obtain ⟨n, v, -, hP⟩ := h
  exact (hP 0 _ rfl).lt
theorem kY_keptO {D : va_G} {cl : List vw_C} {dA : Nat → ClassId} {q : Nat → Nat} {m0 o : Nat} {r : Nat → Nat → Nat} {σ : Nat → Nat → Int} {th : Int} {H H1 : Heap} (hP : va_P D cl (kY dA m0 r σ th) H) (hk : ∀ a : Nat, a < H.size → ¬ kAO q o H.size a → H1[a]? = H[a]?) (h1 : ∀ i : Nat, i < 17 → kR m0 r i ≠ o) (h2 : ∀ i j : Nat, i < 9 → j < 17 → q i ≠ kR m0 r j) : va_P D cl (kY dA m0 r σ th) H1 := hP.kept (fun i p hp => by
  obtain ⟨a1, a2⟩ := kY_at hp
  have h9 := (hP i p hp).lt
  refine hk _ h9 (fun z => ?_)
  rcases z with (⟨i', hi', e⟩ | z) | z
  · exact h2 i' i hi' a1 (by rw [← e, a2])
  · exact absurd h9 (Nat.not_lt.mpr z)
  · exact h1 i a1 (by rw [← a2]; exact z))
theorem LI_step {dC : Nat → ClassId} {dI : Nat → Nat → Nat} {dA : Nat → ClassId} {k q : Nat → Nat} {m0 : Nat} {r : Nat → Nat → Nat} {o : Nat} {σ σ' : Nat → Nat → Int} {th th' : Int} {P : Int → Prop} {H H1 H2 : Heap} (hI : LI dC dI dA k q m0 r o σ th H) (hG1 : gX dC dI dA q σ' H1) (hO1 : gO dC dI o P H1) (hC2 : gY dC dI dA k m0 r H1.size σ' th' H2)
    (hk8 : ∀ a : Nat, a < H1.size → ¬ kAy m0 r H1.size a → H2[a]? = H1[a]?) (hOK : kOK8 σ σ') : ∃ r' : Nat → Nat → Nat, LI dC dI dA k q m0 r' o σ' th' H2 ∧ gO dC dI o P H2 := by
  obtain ⟨-, -, hq, -, -, -, hko, h0, h1, h2⟩ := hI
  obtain ⟨r', hr', hA', hY'⟩ := hC2
  have ho := gO_lt hO1
  have hql := gX_lt hG1
  have hO2 : gO dC dI o P H2 := gO_kept hO1 (fun h9 => hk8 _ h9 (fun z => by
    rcases z with ⟨j, hj, e⟩ | z
    · exact h1 j hj e.symm
    · exact absurd h9 (Nat.not_lt.mpr z)))
  have hG2 : gX dC dI dA q σ' H2 := gX_kept hG1 (fun i hi h9 => hk8 _ h9 (fun z => by
    rcases z with ⟨j, hj, e⟩ | z
    · exact h2 i j hi hj e
    · exact absurd h9 (Nat.not_lt.mpr z)))
  refine ⟨r', ⟨hG2, hOK.1, hq, hY', hr', gO_w hO2 (fun _ _ => trivial), hko, h0, fun i hi e => ?_, fun i j hi hj e => ?_⟩, hO2⟩
  · rcases hA' i hi with ⟨j, hj, e2⟩ | z
    · exact h1 j hj (by rw [← e2, e])
    · rw [e] at z; omega
  · rcases hA' j hj with ⟨j', hj', e2⟩ | z
    · exact h2 i j' hi hj' (by rw [e, e2])
    · rw [← e] at z
      have := hql i hi
      omega
theorem LI_step8 {dC : Nat → ClassId} {dI : Nat → Nat → Nat} {dA : Nat → ClassId} {k q : Nat → Nat} {m0 : Nat} {r : Nat → Nat → Nat} {o : Nat} {σ σ' : Nat → Nat → Int} {th th' : Int} {P : Int → Prop} {H H1 H2 : Heap} (hI : LI dC dI dA k q m0 r o σ th H) (hG1 : gX dC dI dA q σ' H1) (hO1 : gO dC dI o P H1) (hC2 : gY dC dI dA k m0 r H1.size σ' th' H2)
    (hk8 : ∀ a : Nat, a < H1.size → ¬ kAy m0 r H1.size a → H2[a]? = H1[a]?) (hOK : kOK σ') : ∃ r' : Nat → Nat → Nat, LI dC dI dA k q m0 r' o σ' th' H2 ∧ gO dC dI o P H2 := by
  obtain ⟨-, -, hq, -, -, -, hko, h0, h1, h2⟩ := hI
  obtain ⟨r', hr', hA', hY'⟩ := hC2
  have ho := gO_lt hO1
  have hql := gX_lt hG1
  have hO2 : gO dC dI o P H2 := gO_kept hO1 (fun h9 => hk8 _ h9 (fun z => by
    rcases z with ⟨j, hj, e⟩ | z
    · exact h1 j hj e.symm
    · exact absurd h9 (Nat.not_lt.mpr z)))
  have hG2 : gX dC dI dA q σ' H2 := gX_kept hG1 (fun i hi h9 => hk8 _ h9 (fun z => by
    rcases z with ⟨j, hj, e⟩ | z
    · exact h2 i j hi hj e
    · exact absurd h9 (Nat.not_lt.mpr z)))
  refine ⟨r', ⟨hG2, hOK, hq, hY', hr', gO_w hO2 (fun _ _ => trivial), hko, h0, fun i hi e => ?_, fun i j hi hj e => ?_⟩, hO2⟩
  · rcases hA' i hi with ⟨j, hj, e2⟩ | z
    · exact h1 j hj (by rw [← e2, e])
    · rw [e] at z; omega
  · rcases hA' j hj with ⟨j', hj', e2⟩ | z
    · exact h2 i j' hi hj' (by rw [e, e2])
    · rw [← e] at z
      have := hql i hi
      omega
theorem kroomC {n : Nat} (h : n ≤ 652095) : n ≤ room_1.cells := h
theorem kroomS {n : Nat} (h : n ≤ 7139820) : n ≤ room_1.slots := h
theorem kand63 (x : Int32) : ∃ v : Nat, v < 64 ∧ x &&& iZ 63 = iZ (v : Int) := by
  have h2 : (x &&& iZ 63).toBitVec.toNat ≤ 63 := by
    rw [show (x &&& iZ 63).toBitVec = x.toBitVec &&& 63#32 from rfl, BitVec.toNat_and]
    exact Nat.and_le_right
  refine ⟨(x &&& iZ 63).toBitVec.toNat, by omega, ?_⟩
  rw [← Int32.toInt_inj, iZ_toInt ⟨by omega, by omega⟩]
  show (x &&& iZ 63).toBitVec.toInt = _
  rw [BitVec.toInt_eq_toNat_of_lt (by omega)]
section
variable {p : Program} {l : Launch} {e : Env} {R : Room} {s : State} {m : MethodId} {args : Array Value} {below : List Frame} {meth : Method} {c : Code} {H : Heap} {locs : List Loc} {cells slots : Nat} {Q : State → Prop}
variable {cc : ByteArray} {pc : Nat} {ls : Array Slot} {rest : List Value} {A : Nat → Prop} {H0 : Heap}
theorem kz_sld (hx : p.tables.exec = Jvm.exec) (hb : c.code = cc) {b L : Nat} {xs : Nat → Int32} (hX : va_X b L xs s H0) (hbl : b < H0.size) (hbA : ¬ A b) (hS : va_S A H0 H locs) {z : Int} (hz : 0 ≤ z ∧ z < L) (hL : L ≤ 2560) (hdg : decode cc pc = .ok (.iaload, 1))
    (kk : W p l e R s m args below meth c H locs cells slots Q (F0 m (pc + 1) ls (.int (iZ (fx xs z)) :: rest))) : W p l e R s m args below meth c H locs cells slots Q (F0 m pc ls (.int (iZ z) :: .ref b :: rest)) := by
  refine va_sld hx hb hX hbl hbA hS (iZ_idx hz (by omega)) hdg ?_
  rw [iZ_cl ⟨by omega, by omega⟩, ← fx_iZ xs z]
  exact kk
theorem kz_icmp_same (hx : p.tables.exec = Jvm.exec) (hb : c.code = cc) {x y : Int} {off : Int} {tgt : Nat} (h : x = y) (hdg : decode cc pc = .ok (.if_icmp .eq off, 3)) (ht : (pc : Int) + off = (tgt : Int)) (kt : W p l e R s m args below meth c H locs cells slots Q (F0 m tgt ls rest)) : W p l e R s m args below meth c H locs cells slots Q (F0 m pc ls (.int (iZ y) :: .int (iZ x) :: rest)) :=
  lv_icmp_eq hx hb hdg ht (fun _ => kt) (fun q => absurd (congrArg iZ h) q)
theorem kz_lcmp_same (hx : p.tables.exec = Jvm.exec) (hb : c.code = cc) {x y : Int} {off : Int} {tgt : Nat} (h : x = y) (hdg : decode cc pc = .ok (.lcmp, 1)) (hdg2 : decode cc (pc + 1) = .ok (.ifCond .eq off, 3)) (ht : ((pc + 1 : Nat) : Int) + off = (tgt : Int)) (kt : W p l e R s m args below meth c H locs cells slots Q (F0 m tgt ls rest)) : W p l e R s m args below meth c H locs cells slots Q (F0 m pc ls (.long (lZ y) :: .long (lZ x) :: rest)) := by
  subst h
  refine W.lcmp hx hb hdg ?_
  rw [show lg_cmp (lZ x) (lZ x) = iZ 0 from by
    unfold lg_cmp
    rw [if_neg (Int64.lt_irrefl), if_pos rfl]
    rfl]
  exact kz_if_eq hx hb (by decide) hdg2 ht (fun _ => kt) (fun q => absurd rfl q)
theorem kz_and63 (hx : p.tables.exec = Jvm.exec) (hb : c.code = cc) {x : Int32} (hdg : decode cc pc = .ok (.iand, 1)) (kk : ∀ v : Nat, v < 64 → W p l e R s m args below meth c H locs cells slots Q (F0 m (pc + 1) ls (.int (iZ (v : Int)) :: rest))) : W p l e R s m args below meth c H locs cells slots Q (F0 m pc ls (.int (iZ 63) :: .int x :: rest)) := by
  obtain ⟨v, hv, hx9⟩ := kand63 x
  refine lv_iand hx hb hdg ?_
  rw [hx9]
  exact kk v hv
end
theorem gOS_step {dC : Nat → ClassId} {dI : Nat → Nat → Nat} {dA : Nat → ClassId} {k q : Nat → Nat} {m0 : Nat} {r : Nat → Nat → Nat} {o : Nat} {σ : Nat → Nat → Int} {th : Int} {P : Prop} {z : Int} {H H1 H2 : Heap} (hI : LI dC dI dA k q m0 r o σ th H) (hO1 : gOS dC dI dA o H.size P z H1) (hk8 : ∀ a : Nat, a < H1.size → ¬ kAy m0 r H1.size a → H2[a]? = H1[a]?) : gOS dC dI dA o H.size P z H2 := by
  obtain ⟨-, -, hq, hY, -, -, hko, h0, h1, h2⟩ := hI
  obtain ⟨n, v, hP, hx⟩ := hO1
  refine ⟨n, v, hP.kept (fun i p hp => by
    match i, hp with
    | 0, hp =>
      cases hp
      refine hk8 _ (hP 0 _ rfl).lt (fun z => ?_)
      rcases z with ⟨j, hj, e⟩ | z
      · exact h1 j hj e.symm
      · exact absurd (hP 0 _ rfl).lt (Nat.not_lt.mpr z)
    | n + 1, hp => cases hp), fun h9 => ?_⟩
  obtain ⟨x, e1, hT⟩ := hx h9
  refine ⟨x, e1, kTS_kept hT (fun a ha hl => hk8 a hl (fun z => ?_))⟩
  rcases z with ⟨j, hj, e⟩ | z
  · have h3 := kYltR (w := []) (show va_P (dC, dI) vwCl (kY dA m0 r σ th ++ ([] : va_W)) H from by rw [← kap]; exact hY) j hj
    rw [← e] at h3
    exact absurd h3 (Nat.not_lt.mpr ha)
  · exact absurd hl (Nat.not_lt.mpr z)
