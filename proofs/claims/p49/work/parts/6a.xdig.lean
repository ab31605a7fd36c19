theorem k_loop4 {X Y Z : Type} {W : Nat → X → Y → Z → Prop} (I : Nat → X → Y → Z → Prop) (N : Nat) (hx : ∀ x y z, I N x y z → W N x y z) (hs : ∀ k x y z, k < N → I k x y z → (∀ x' y' z', I (k + 1) x' y' z' → W (k + 1) x' y' z') → W k x y z) (x : X) (y : Y) (z : Z) (h0 : I 0 x y z) : W 0 x y z := by
  have key : ∀ d k x y z, k + d = N → I k x y z → W k x y z := by
    intro d
    induction d with
    | zero => intro k x y z hk hI; obtain rfl : k = N := by omega
              exact hx x y z hI
    | succ d ih => intro k x y z hk hI; exact hs k x y z (by omega) hI (fun x' y' z' h' => ih (k + 1) x' y' z' (by omega) h')
  exact key N 0 x y z (by omega) h0
def wtN (d z : Int) : Nat → Int
  | 0 => d * 31 + ((TL z : Nat) : Int)
  | k + 1 => wtN d z k * 31 + TX z k
/-- a text mixed into a sum -/
def wtx (d z : Int) : Int := wtN d z (TL z)
def dLi (σ : Nat → Nat → Int) (d : Int) (j : Nat) : Nat → Int
  | 0 => d
  | w + 1 => dLi σ d j w * 31 + ofL σ j ((w : Nat) : Int)
def dLs (σ : Nat → Nat → Int) (d : Int) : Nat → Int
  | 0 => d
  | j + 1 => wtx (dLi σ (dLs σ d j) j 8) (cnt (σ 0 j) (σ 1 j))
def dYi (σ : Nat → Nat → Int) (d : Int) (j : Nat) : Nat → Int
  | 0 => d
  | w + 1 => dYi σ d j w * 31 + ofY σ j ((w : Nat) : Int)
def dYs (σ : Nat → Nat → Int) (d : Int) : Nat → Int
  | 0 => d
  | j + 1 => dYi σ (dYs σ d j) j 5
def dFi (σ : Nat → Nat → Int) (d : Int) (j : Nat) : Nat → Int
  | 0 => d
  | w + 1 => dFi σ d j w * 31 + ofF σ j ((w : Nat) : Int)
def dFs (σ : Nat → Nat → Int) (d : Int) : Nat → Int
  | 0 => d
  | j + 1 => dFi σ (dFs σ d j) j 5
def dDi (σ : Nat → Nat → Int) (d : Int) (j : Nat) : Nat → Int
  | 0 => d
  | w + 1 => dDi σ d j w * 31 + ofD σ j ((w : Nat) : Int)
def dDs (σ : Nat → Nat → Int) (d : Int) : Nat → Int
  | 0 => d
  | j + 1 => wtx (dDi σ (dDs σ d j) j 6) (dnum (σ 5 j) (σ 6 j) (σ 7 j))
def wyz (σ : Nat → Nat → Int) (a b : Nat) (u : Int) : Int := tq (cnt (σ 0 b) (σ 1 b) - cnt (σ 0 a) (σ 1 a)) (usize u)
def dWi (σ : Nat → Nat → Int) (d : Int) (a : Nat) : Nat → Int
  | 0 => d
  | b + 1 => wtx (wtx (dWi σ d a b * 31 + ordT (cnt (σ 0 a) (σ 1 a)) (cnt (σ 0 b) (σ 1 b)) 0) (wyz σ a b 0)) (wyz σ a b 1)
def dWs (σ : Nat → Nat → Int) (d : Int) : Nat → Int
  | 0 => d
  | a + 1 => dWi σ (dWs σ d a) a 4
def dEi (σ : Nat → Nat → Int) (d : Int) (a : Nat) : Nat → Int
  | 0 => d
  | b + 1 => dEi σ d a b * 31 + bZ (inYr σ b (σ 2 a))
def dEs (σ : Nat → Nat → Int) (d : Int) : Nat → Int
  | 0 => d
  | a + 1 => dEi σ (dEs σ d a) a 4
def dHs (σ : Nat → Nat → Int) (d : Int) : Nat → Int
  | 0 => d
  | w + 1 => dHs σ d w * 31 + hsR σ ((w : Nat) : Int)
def dig (σ : Nat → Nat → Int) : Int := dHs σ (dEs σ (dWs σ (dDs σ (dFs σ (dYs σ (dLs σ 7792 4) 4) 4) 4) 4) 4) 5 * 31 + 1
theorem ofL_rng {σ : Nat → Nat → Int} (h : kOK σ) {j : Nat} (hj : j < 4) (w : Int) : -2000000000 ≤ ofL σ j w ∧ ofL σ j w ≤ 2000000000 := by
  have o := kOKr h hj
  have h1 := mlen_rng (leap (σ 0 j)) (σ 1 j)
  have h2 := ylen_rng (σ 0 j)
  have h3 := bZ_rng (leap (σ 0 j))
  unfold ofL rank side
  (repeat' split) <;> omega
theorem ofY_rng {σ : Nat → Nat → Int} (h : kOK σ) {j : Nat} (hj : j < 4) (w : Int) : -2000000000 ≤ ofY σ j w ∧ ofY σ j w ≤ 2000000000 := by
  have o := kOKr h hj
  have h2 := ylen_rng (σ 2 j)
  have h3 := bZ_rng (leap (σ 2 j))
  unfold ofY rank side
  (repeat' split) <;> omega
theorem ofF_rng {σ : Nat → Nat → Int} (h : kOK σ) {j : Nat} (hj : j < 4) (w : Int) : -2000000000 ≤ ofF σ j w ∧ ofF σ j w ≤ 2000000000 := by
  have o := kOKr h hj
  have h1 := mlen_rng true (σ 3 j)
  have h2 := mlen_rng false (σ 3 j)
  unfold ofF
  (repeat' split) <;> omega
theorem ofD_rng {σ : Nat → Nat → Int} (h : kOK σ) {j : Nat} (hj : j < 4) (w : Int) : -2000000000 ≤ ofD σ j w ∧ ofD σ j w ≤ 2000000000 := by
  have o := kOKr h hj
  have h1 := ahead_rng (leap (σ 5 j)) (m := σ 6 j) (by omega)
  have h3 := bZ_rng (decide (σ 7 j = mlen (leap (σ 5 j)) (σ 6 j)))
  unfold ofD
  (repeat' split) <;> omega
theorem ordT_rng (a b w : Int) : -1 ≤ ordT a b w ∧ ordT a b w ≤ 1 := by
  unfold ordT; (repeat' split) <;> omega
theorem cnt_13 {σ : Nat → Nat → Int} (h : kOK σ) {j : Nat} (hj : j < 4) : (cnt (σ 0 j) (σ 1 j)).natAbs < 10000000000000 := by
  have o := kOKr h hj; omega
theorem wyz_13 {σ : Nat → Nat → Int} (h : kOK σ) {a b : Nat} (ha : a < 4) (hb : b < 4) (u : Int) : (wyz σ a b u).natAbs < 10000000000000 := by
  have o1 := kOKr h ha
  have o2 := kOKr h hb
  have hu := usize_rng u
  have ht := tq_abs (x := cnt (σ 0 b) (σ 1 b) - cnt (σ 0 a) (σ 1 a)) (y := usize u) (by omega)
  unfold wyz; omega
theorem dnum_13 {σ : Nat → Nat → Int} (h : kOK σ) {j : Nat} (hj : j < 4) : (dnum (σ 5 j) (σ 6 j) (σ 7 j)).natAbs < 10000000000000 := by
  have o := kOKr h hj
  have hn := dnum_rng (y := σ 5 j) (m := σ 6 j) (d := σ 7 j) (by omega) (by omega) (by omega)
  omega
theorem hsR_rng {σ : Nat → Nat → Int} {w : Int} (h0 : ¬ w = 4) : 0 ≤ hsR σ w ∧ hsR σ w ≤ 4 := by
  have h1 := bZ_rng (counted σ w 0)
  have h2 := bZ_rng (counted σ w 1)
  have h3 := bZ_rng (counted σ w 2)
  have h4 := bZ_rng (counted σ w 3)
  unfold hsR; rw [if_neg h0]; omega
abbrev ww_X1_withText : List Cond := .code yX1_withText cX1_withText 8 (some .long) :: gT
set_option maxHeartbeats 4000000 in
set_option maxRecDepth 100000 in
theorem c_X1_withText (l : Launch) (dC : Nat → ClassId) (dI : Nat → Nat → Nat) (dA : Nat → ClassId) (k : Nat → Nat) (q : Nat → Nat) (σ : Nat → Nat → Int) (H0 : Heap) (hG : gX dC dI dA q σ H0) (hOK : kOK σ) (hq : kQI q k) (dd zz : Int) (h0 : zz.natAbs < 10000000000000) : Met l yX1_withText ww_X1_withText ({ frames := 4, cells := 0, slots := 0, locals := 91 }) (va_Pc [.ref (q 0), .long (lZ (dd)), .long (lZ (zz))] (fun U => U.heap = H0 ∧ kMJ dC dI dA k U)) (kQ2 (some (.long (lZ (wtx dd zz)))) (gX dC dI dA q σ) (kA q H0.size)) 0 0 (kA q H0.size) := by
  refine Met.ofW (cc := cX1_withText) (maxL := 8) (ret := (some .long)) (by decide) rfl ?_
  intro p e s m args below meth c s₁ B hml hv
  obtain ⟨rfl, hH, hMJ⟩ := hv
  subst hH
  have hG0 := hG
  obtain ⟨g, tm, n, hn, hg, htm, hP⟩ := gX_g hG
  have hM := hMJ.1
  have hAN : ∀ a, kA q s.heap.size a → k 0 ≤ a := kA_N hq hM.2.1.1
  have hne78 : q 7 ≠ q 8 := fun z => absurd (hq.1 7 8 (by decide) (by decide) z) (by decide)
  have hk7 := hq.2 7 (by decide)
  have hk8 := hq.2 8 (by decide)
  have hS : va_S (kA q s.heap.size) s.heap s.heap [] := va_S.rf
  have hL := TL_rng h0
  have hx := B.exec
  have hb := B.bytes
  have hr9 := B.returns
  have hts := atoms_spec (ws := ww_X1_withText) B.pre
  have hown : s.vm.findClass RX1 = some m.cls := findClass_of_methodNamed B.named
  have hlocks := B.notSynchronized
  have hl := lv_entry ([.ref (q 0), .long (lZ (dd)), .long (lZ (zz))]) (n := 8) (Nat.le_of_ble_eq_true rfl)
  rw [lg_entry_eq]
  generalize (lg_sl ([.ref (q 0), .long (lZ (dd)), .long (lZ (zz))]) ++ List.replicate (8 - (lg_sl ([.ref (q 0), .long (lZ (dd)), .long (lZ (zz))])).length) Slot.unset).toArray = ls at hl ⊢
  have hl : lv_has ls 8 [(0, .ref (q 0)), (1, .long (lZ (dd))), (3, .long (lZ (zz)))] := hl
  refine lv_aload_n hx hb dX1_withText_0 rfl (lv_at hl 0 rfl) ?_
  refine lv_lload_n hx hb dX1_withText_1 rfl (lv_at hl 2 rfl) ?_
  have hz9 : (zz).natAbs < 10000000000000 := h0
  refine kc2 (va_runV (As := [.long (lZ (zz))]) (rest := []) ⟨hx, hb, hml, hown, hts⟩ (c_X1_writeText l dC dI dA k q σ _ (hG0) hOK hq (zz) hz9) (cwV 1 hts (kg_V mw241 mw242 mw8 mw42 rfl mw243) rfl rfl rfl hdV_X1_writeText ⟨Nat.le_of_ble_eq_true rfl, Nat.le_of_ble_eq_true rfl⟩) ⟨fun a U g mk q => ⟨q.1, q.2.1, kMJ_call q.2.2⟩, va_recv hMJ.1.1 hP (ci := 4) (q0 := 0) rfl rfl, fun U hU hW => ⟨rfl, hU, kMJ_kept hMJ hS hAN hU hW⟩⟩ rfl rfl hl.1 rfl (lv_room (Nat.le_of_ble_eq_true rfl)) dX1_withText_2 ⟨Nat.le_of_ble_eq_true rfl, Nat.le_of_ble_eq_true rfl⟩) hS (fun a _ h => kA_up hS.1 a h) (fun a h => kA_up hS.1 a h) (fun H1 locs hG9 hy9 hk9 hS => ?_)
  obtain ⟨g_1, tm_g_1, hg_g_1, htm_g_1, ht_g_1, hP⟩ := hG9
  clear hk9 hy9
  generalize H1 = H at hP hS ⊢
  refine lv_lload_n hx hb dX1_withText_5 rfl (lv_at hl 1 rfl) ?_
  refine lv_ldc2 (v := lZ 31) hx hb hown (hts _ (List.mem_cons_of_mem _ mw219)) dX1_withText_6 ?_
  refine kz_lmul hx hb dX1_withText_9 ?_
  refine lv_aload_n hx hb dX1_withText_10 rfl (lv_at hl 0 rfl) ?_
  refine va_get (D := (dC, dI)) (ci := 4) (v := .ref (q 7)) (C := RX1) (T := TX1) (N := 8) hx hb hts (fun w h => List.mem_cons_of_mem _ (gF_0_in h)) hown hM.1 hP 0 rfl rfl 6 (by decide) (hts _ (List.mem_cons_of_mem _ mw103)) (fun _ h9 => h9) rfl dX1_withText_11 ?_
  refine kc0 (fun _ q => q) (va_runV (As := []) (rest := [.long (lZ (dd * 31))]) ⟨hx, hb, hml, hown, hts⟩ (c_J4_length_8abf5 l dC dI dA k (q 7) (q 8) (g_1) (tm_g_1) (TL (zz)) _ (hP.sub [7, 8] rfl) htm_g_1 hne78 hk7 hk8 (hg_g_1) (by omega) ) (cwV 0 hts (kg_V mw516 mw410 mw1454 mw44 rfl mw411) rfl rfl rfl hdV_J4_length_8abf5 ⟨Nat.le_of_ble_eq_true rfl, Nat.le_of_ble_eq_true rfl⟩) ⟨fun a U g mk q => ⟨q.1, q.2.1, kMJ_call q.2.2⟩, va_recv hMJ.1.1 hP (ci := 1) (q0 := 7) rfl rfl, fun U hU hW => ⟨rfl, hU, kMJ_kept hMJ hS hAN hU hW⟩⟩ rfl rfl hl.1 rfl (lv_room (Nat.le_of_ble_eq_true rfl)) dX1_withText_14 ⟨Nat.le_of_ble_eq_true rfl, Nat.le_of_ble_eq_true rfl⟩) ?_
  refine kz_i2l hx hb (by omega) dX1_withText_17 ?_
  refine kz_ladd hx hb dX1_withText_18 ?_
  refine lv_lstore (lv' := [(5, .long (lZ ((dd * 31) + ((((TL (zz) : Nat) : Int)))))), (0, .ref (q 0)), (1, .long (lZ (dd))), (3, .long (lZ (zz)))]) hx hb dX1_withText_19 hl (by decide) rfl (fun ls hl => ?_)
  refine lv_iconst (v := iZ 0) hx hb dX1_withText_21 rfl ?_
  refine lv_istore (lv' := [(7, .int (iZ 0)), (5, .long (lZ ((dd * 31) + ((((TL (zz) : Nat) : Int)))))), (0, .ref (q 0)), (1, .long (lZ (dd))), (3, .long (lZ (zz)))]) hx hb dX1_withText_22 hl (by decide) rfl (fun ls hl => ?_)
  refine k_loop (W := fun ls => W p l e _ s m _ below meth c H locs _ _ _ (F0 m 24 ls [])) (I := fun (kk : Nat) ls => lv_has ls 8 [(5, .long (lZ (wtN dd zz kk))), (7, .int (iZ (((kk : Nat) : Int)))), (0, .ref (q 0)), (1, .long (lZ (dd))), (3, .long (lZ (zz)))]) ((TL zz)) 0 (Nat.zero_le _) (by have h9 := (lv_sub hl [1, 0, 2, 3, 4] rfl); exact h9) (fun ls hl => ?_) (fun kk ls hk hl ih => ?_)
  · refine lv_iload hx hb dX1_withText_24 (lv_at hl 1 rfl) ?_
    refine lv_aload_n hx hb dX1_withText_26 rfl (lv_at hl 2 rfl) ?_
    refine va_get (D := (dC, dI)) (ci := 4) (v := .ref (q 7)) (C := RX1) (T := TX1) (N := 8) hx hb hts (fun w h => List.mem_cons_of_mem _ (gF_0_in h)) hown hM.1 hP 0 rfl rfl 6 (by decide) (hts _ (List.mem_cons_of_mem _ mw103)) (fun _ h9 => h9) rfl dX1_withText_27 ?_
    refine kc0 (fun _ q => q) (va_runV (As := []) (rest := [.int (iZ (((((TL zz)) : Nat) : Int)))]) ⟨hx, hb, hml, hown, hts⟩ (c_J4_length_8abf5 l dC dI dA k (q 7) (q 8) (g_1) (tm_g_1) (TL (zz)) _ (hP.sub [7, 8] rfl) htm_g_1 hne78 hk7 hk8 (hg_g_1) (by omega) ) (cwV 0 hts (kg_V mw516 mw410 mw1454 mw44 rfl mw411) rfl rfl rfl hdV_J4_length_8abf5 ⟨Nat.le_of_ble_eq_true rfl, Nat.le_of_ble_eq_true rfl⟩) ⟨fun a U g mk q => ⟨q.1, q.2.1, kMJ_call q.2.2⟩, va_recv hMJ.1.1 hP (ci := 1) (q0 := 7) rfl rfl, fun U hU hW => ⟨rfl, hU, kMJ_kept hMJ hS hAN hU hW⟩⟩ rfl rfl hl.1 rfl (lv_room (Nat.le_of_ble_eq_true rfl)) dX1_withText_30 ⟨Nat.le_of_ble_eq_true rfl, Nat.le_of_ble_eq_true rfl⟩) ?_
    refine kz_icmp_ge (tgt := 61) hx hb (by first | omega | (rw [Int.toNat_natCast, ht_g_1 _ hk]; have := TX_rng zz kk; omega)) (by first | omega | (rw [Int.toNat_natCast, ht_g_1 _ hk]; have := TX_rng zz kk; omega)) dX1_withText_33 (by decide) (fun c_2 => ?_) (fun c_2 => absurd c_2 (by omega))
    refine lv_lload hx hb dX1_withText_61 (lv_at hl 0 rfl) ?_
    exact W.lret (v := lZ (wtN dd zz (TL zz))) hx hb hr9 (fun t ht hW => ⟨⟨rfl, by rw [ht]; exact gX_of (by omega) hg_g_1 htm_g_1 hP⟩, hS.F ht⟩) hS.2.2 dX1_withText_63
  · refine lv_iload hx hb dX1_withText_24 (lv_at hl 1 rfl) ?_
    refine lv_aload_n hx hb dX1_withText_26 rfl (lv_at hl 2 rfl) ?_
    refine va_get (D := (dC, dI)) (ci := 4) (v := .ref (q 7)) (C := RX1) (T := TX1) (N := 8) hx hb hts (fun w h => List.mem_cons_of_mem _ (gF_0_in h)) hown hM.1 hP 0 rfl rfl 6 (by decide) (hts _ (List.mem_cons_of_mem _ mw103)) (fun _ h9 => h9) rfl dX1_withText_27 ?_
    refine kc0 (fun _ q => q) (va_runV (As := []) (rest := [.int (iZ (((kk : Nat) : Int)))]) ⟨hx, hb, hml, hown, hts⟩ (c_J4_length_8abf5 l dC dI dA k (q 7) (q 8) (g_1) (tm_g_1) (TL (zz)) _ (hP.sub [7, 8] rfl) htm_g_1 hne78 hk7 hk8 (hg_g_1) (by omega) ) (cwV 0 hts (kg_V mw516 mw410 mw1454 mw44 rfl mw411) rfl rfl rfl hdV_J4_length_8abf5 ⟨Nat.le_of_ble_eq_true rfl, Nat.le_of_ble_eq_true rfl⟩) ⟨fun a U g mk q => ⟨q.1, q.2.1, kMJ_call q.2.2⟩, va_recv hMJ.1.1 hP (ci := 1) (q0 := 7) rfl rfl, fun U hU hW => ⟨rfl, hU, kMJ_kept hMJ hS hAN hU hW⟩⟩ rfl rfl hl.1 rfl (lv_room (Nat.le_of_ble_eq_true rfl)) dX1_withText_30 ⟨Nat.le_of_ble_eq_true rfl, Nat.le_of_ble_eq_true rfl⟩) ?_
    refine kz_icmp_ge (tgt := 61) hx hb (by first | omega | (rw [Int.toNat_natCast, ht_g_1 _ hk]; have := TX_rng zz kk; omega)) (by first | omega | (rw [Int.toNat_natCast, ht_g_1 _ hk]; have := TX_rng zz kk; omega)) dX1_withText_33 (by decide) (fun c_3 => absurd c_3 (by omega)) (fun c_3 => ?_)
    refine lv_lload hx hb dX1_withText_36 (lv_at hl 0 rfl) ?_
    refine lv_ldc2 (v := lZ 31) hx hb hown (hts _ (List.mem_cons_of_mem _ mw219)) dX1_withText_38 ?_
    refine kz_lmul hx hb dX1_withText_41 ?_
    refine lv_aload_n hx hb dX1_withText_42 rfl (lv_at hl 2 rfl) ?_
    refine va_get (D := (dC, dI)) (ci := 4) (v := .ref (q 7)) (C := RX1) (T := TX1) (N := 8) hx hb hts (fun w h => List.mem_cons_of_mem _ (gF_0_in h)) hown hM.1 hP 0 rfl rfl 6 (by decide) (hts _ (List.mem_cons_of_mem _ mw103)) (fun _ h9 => h9) rfl dX1_withText_43 ?_
    refine lv_iload hx hb dX1_withText_46 (lv_at hl 1 rfl) ?_
    refine kc0 (fun _ q => q) (va_runV (As := [.int (iZ (((kk : Nat) : Int)))]) (rest := [.long (lZ ((wtN dd zz kk) * 31))]) ⟨hx, hb, hml, hown, hts⟩ (c_J4_charAt_5068e l dC dI dA k (q 7) (q 8) (g_1) (tm_g_1) (TL (zz)) _ (hP.sub [7, 8] rfl) htm_g_1 hne78 hk7 hk8 (hg_g_1) (by omega) (((kk : Nat) : Int)) (by first | omega | (rw [Int.toNat_natCast, ht_g_1 _ hk]; have := TX_rng zz kk; omega)) (by first | omega | (rw [Int.toNat_natCast, ht_g_1 _ hk]; have := TX_rng zz kk; omega))) (cwV 1 hts (kg_V mw517 mw518 mw519 mw44 rfl mw520) rfl rfl rfl hdV_J4_charAt_5068e ⟨Nat.le_of_ble_eq_true rfl, Nat.le_of_ble_eq_true rfl⟩) ⟨fun a U g mk q => ⟨q.1, q.2.1, kMJ_call q.2.2⟩, va_recv hMJ.1.1 hP (ci := 1) (q0 := 7) rfl rfl, fun U hU hW => ⟨rfl, hU, kMJ_kept hMJ hS hAN hU hW⟩⟩ rfl rfl hl.1 rfl (lv_room (Nat.le_of_ble_eq_true rfl)) dX1_withText_48 ⟨Nat.le_of_ble_eq_true rfl, Nat.le_of_ble_eq_true rfl⟩) ?_
    refine kz_i2l hx hb (by first | omega | (rw [Int.toNat_natCast, ht_g_1 _ hk]; have := TX_rng zz kk; omega)) dX1_withText_51 ?_
    refine kz_ladd hx hb dX1_withText_52 ?_
    refine lv_lstore (lv' := [(5, .long (lZ (((wtN dd zz kk) * 31) + ((g_1 ((((kk : Nat) : Int))).toNat))))), (7, .int (iZ (((kk : Nat) : Int)))), (0, .ref (q 0)), (1, .long (lZ (dd))), (3, .long (lZ (zz)))]) hx hb dX1_withText_53 hl (by decide) rfl (fun ls hl => ?_)
    refine lv_iinc (v := iZ ((((kk : Nat) : Int)) + 1)) (lv' := [(7, .int (iZ ((((kk : Nat) : Int)) + 1))), (5, .long (lZ (((wtN dd zz kk) * 31) + ((g_1 ((((kk : Nat) : Int))).toNat))))), (0, .ref (q 0)), (1, .long (lZ (dd))), (3, .long (lZ (zz)))]) hx hb dX1_withText_55 hl (k := 1) rfl (iZ_add _ _) (by decide) rfl (fun ls hl => ?_)
    refine lv_goto (tgt := 24) hx hb dX1_withText_58 (by decide) ?_
    exact ih ls (by have h9 := lv_sub hl [1, 0, 2, 3, 4] rfl; rw [show wtN dd zz kk * 31 + g_1 (((kk : Nat) : Int)).toNat = wtN dd zz (kk + 1) from by rw [Int.toNat_natCast, ht_g_1 _ hk]; rfl, show ((kk : Nat) : Int) + 1 = ((kk + 1 : Nat) : Int) from by omega] at h9; exact h9)

abbrev ww_X1_digestOfLeaves : List Cond := .code yX1_digestOfLeaves cX1_digestOfLeaves 7 (some .long) :: gT
set_option maxHeartbeats 4000000 in
set_option maxRecDepth 100000 in
theorem c_X1_digestOfLeaves (l : Launch) (hst : l.stackTraces = false) (dC : Nat → ClassId) (dI : Nat → Nat → Nat) (dA : Nat → ClassId) (k : Nat → Nat) (q : Nat → Nat) (σ : Nat → Nat → Int) (H0 : Heap) (hG : gX dC dI dA q σ H0) (hOK : kOK σ) (hq : kQI q k) (dd : Int) : Met l yX1_digestOfLeaves ww_X1_digestOfLeaves ({ frames := 10, cells := 64, slots := 384, locals := 347 }) (va_Pc [.ref (q 0), .long (lZ (dd))] (fun U => U.heap = H0 ∧ kMJ dC dI dA k U)) (kQ2 (some (.long (lZ (dLs σ dd 4)))) (gX dC dI dA q σ) (kA q H0.size)) 64 384 (kA q H0.size) := by
  refine Met.ofW (cc := cX1_digestOfLeaves) (maxL := 7) (ret := (some .long)) (by decide) rfl ?_
  intro p e s m args below meth c s₁ B hml hv
  obtain ⟨rfl, hH, hMJ⟩ := hv
  subst hH
  obtain ⟨tb, tn, tm, htn, hfit, htm, hP⟩ := id hG
  have hM := hMJ.1
  have hAN : ∀ a, kA q s.heap.size a → k 0 ≤ a := kA_N hq hM.2.1.1
  have hne78 : q 7 ≠ q 8 := fun z => absurd (hq.1 7 8 (by decide) (by decide) z) (by decide)
  have hk7 := hq.2 7 (by decide)
  have hk8 := hq.2 8 (by decide)
  have hS : va_S (kA q s.heap.size) s.heap s.heap [] := va_S.rf
  have hx := B.exec
  have hb := B.bytes
  have hr9 := B.returns
  have hts := atoms_spec (ws := ww_X1_digestOfLeaves) B.pre
  have hown : s.vm.findClass RX1 = some m.cls := findClass_of_methodNamed B.named
  have hlocks := B.notSynchronized
  have hl := lv_entry ([.ref (q 0), .long (lZ (dd))]) (n := 7) (Nat.le_of_ble_eq_true rfl)
  rw [lg_entry_eq]
  generalize (lg_sl ([.ref (q 0), .long (lZ (dd))]) ++ List.replicate (7 - (lg_sl ([.ref (q 0), .long (lZ (dd))])).length) Slot.unset).toArray = ls at hl ⊢
  have hl : lv_has ls 7 [(0, .ref (q 0)), (1, .long (lZ (dd)))] := hl
  refine lv_lload_n hx hb dX1_digestOfLeaves_0 rfl (lv_at hl 1 rfl) ?_
  refine lv_lstore_n (lv' := [(3, .long (lZ (dd))), (0, .ref (q 0)), (1, .long (lZ (dd)))]) hx hb dX1_digestOfLeaves_1 rfl hl (by decide) rfl (fun ls hl => ?_)
  refine lv_iconst (v := iZ 0) hx hb dX1_digestOfLeaves_2 rfl ?_
  refine lv_istore (lv' := [(5, .int (iZ 0)), (3, .long (lZ (dd))), (0, .ref (q 0)), (1, .long (lZ (dd)))]) hx hb dX1_digestOfLeaves_3 hl (by decide) rfl (fun ls hl => ?_)
  refine k_loop4 (W := fun (ja : Nat) (H : Heap) (locs : List Loc) (ls : Array Slot) => W p l e _ s m _ below meth c H locs (0 + 16 * ja) (0 + 96 * ja) _ (F0 m 5 ls [])) (fun (ja : Nat) (H : Heap) (locs : List Loc) (ls : Array Slot) => lv_has ls 7 [(3, .long (lZ (dLs σ dd ja))), (5, .int (iZ ((ja : Nat) : Int))), (0, .ref (q 0)), (1, .long (lZ (dd)))] ∧ gX dC dI dA q σ H ∧ va_S (kA q s.heap.size) s.heap H locs) 4 (fun H locs ls hI => ?_) (fun ja H locs ls hk_ja hI ih_ja => ?_) _ _ _ ⟨by have h9 := lv_sub hl [1, 0, 2, 3] rfl; exact h9, hG, hS⟩
  · obtain ⟨hl, hG, hS⟩ := hI
    obtain ⟨tb, tn, tm, htn, hfit, htm, hP⟩ := id hG
    refine lv_iload hx hb dX1_digestOfLeaves_5 (lv_at hl 1 rfl) ?_
    refine lv_iconst (v := iZ 4) hx hb dX1_digestOfLeaves_7 rfl ?_
    refine kz_icmp_ge (tgt := 62) hx hb (by first | omega | (have := ofL_rng hOK hk_ja ((jb : Nat) : Int); omega)) (by first | omega | (have := ofL_rng hOK hk_ja ((jb : Nat) : Int); omega)) dX1_digestOfLeaves_8 (by decide) (fun c_1 => ?_) (fun c_1 => absurd c_1 (by omega))
    refine lv_lload_n hx hb dX1_digestOfLeaves_62 rfl (lv_at hl 0 rfl) ?_
    refine W.widen (k := 64) (n := 384) (show (0 + 16 * 4 : Nat) ≤ 64 from by omega) (show (0 + 96 * 4 : Nat) ≤ 384 from by omega) ?_
    exact W.lret (v := lZ (dLs σ dd 4)) hx hb hr9 (fun t ht hW => ⟨⟨congrArg (fun z : Int => Outcome.returned (some (Value.long (lZ z)))) (show (dLs σ dd 4) = dLs σ dd 4 from rfl), by rw [ht]; exact hG⟩, hS.F ht⟩) hS.2.2 dX1_digestOfLeaves_63
  · obtain ⟨hl, hG, hS⟩ := hI
    obtain ⟨tb, tn, tm, htn, hfit, htm, hP⟩ := id hG
    have o_ja := kOKr hOK hk_ja
    refine lv_iload hx hb dX1_digestOfLeaves_5 (lv_at hl 1 rfl) ?_
    refine lv_iconst (v := iZ 4) hx hb dX1_digestOfLeaves_7 rfl ?_
    refine kz_icmp_ge (tgt := 62) hx hb (by first | omega | (have := ofL_rng hOK hk_ja ((jb : Nat) : Int); omega)) (by first | omega | (have := ofL_rng hOK hk_ja ((jb : Nat) : Int); omega)) dX1_digestOfLeaves_8 (by decide) (fun c_2 => absurd c_2 (by omega)) (fun c_2 => ?_)
    refine lv_iconst (v := iZ 0) hx hb dX1_digestOfLeaves_11 rfl ?_
    refine lv_istore (lv' := [(6, .int (iZ 0)), (3, .long (lZ (dLs σ dd ja))), (5, .int (iZ ((ja : Nat) : Int))), (0, .ref (q 0)), (1, .long (lZ (dd)))]) hx hb dX1_digestOfLeaves_12 hl (by decide) rfl (fun ls hl => ?_)
    refine k_loop4 (W := fun (jb : Nat) (H : Heap) (locs : List Loc) (ls : Array Slot) => W p l e _ s m _ below meth c H locs (0 + 16 * ja + 2 * jb) (0 + 96 * ja + 12 * jb) _ (F0 m 14 ls [])) (fun (jb : Nat) (H : Heap) (locs : List Loc) (ls : Array Slot) => lv_has ls 7 [(3, .long (lZ (dLi σ (dLs σ dd ja) ja jb))), (6, .int (iZ ((jb : Nat) : Int))), (5, .int (iZ ((ja : Nat) : Int))), (0, .ref (q 0)), (1, .long (lZ (dd)))] ∧ gX dC dI dA q σ H ∧ va_S (kA q s.heap.size) s.heap H locs) 8 (fun H locs ls hI => ?_) (fun jb H locs ls hk_jb hI ih_jb => ?_) _ _ _ ⟨by have h9 := lv_sub hl [1, 0, 2, 3, 4] rfl; exact h9, hG, hS⟩
    · obtain ⟨hl, hG, hS⟩ := hI
      obtain ⟨tb, tn, tm, htn, hfit, htm, hP⟩ := id hG
      refine lv_iload hx hb dX1_digestOfLeaves_14 (lv_at hl 1 rfl) ?_
      refine lv_bipush (v := iZ 7) hx hb dX1_digestOfLeaves_16 rfl ?_
      refine kz_icmp_gt (tgt := 43) hx hb (by first | omega | (have := ofL_rng hOK hk_ja ((jb : Nat) : Int); omega)) (by first | omega | (have := ofL_rng hOK hk_ja ((jb : Nat) : Int); omega)) dX1_digestOfLeaves_18 (by decide) (fun c_3 => ?_) (fun c_3 => absurd c_3 (by omega))
      refine lv_aload_n hx hb dX1_digestOfLeaves_43 rfl (lv_at hl 3 rfl) ?_
      refine lv_lload_n hx hb dX1_digestOfLeaves_44 rfl (lv_at hl 0 rfl) ?_
      refine lv_aload_n hx hb dX1_digestOfLeaves_45 rfl (lv_at hl 3 rfl) ?_
      refine va_get (D := (dC, dI)) (ci := 4) (v := .ref (q 1)) (C := RX1) (T := TX1) (N := 8) hx hb hts (fun w h => List.mem_cons_of_mem _ (gF_0_in h)) hown hM.1 hP 0 rfl rfl 0 (by decide) (hts _ (List.mem_cons_of_mem _ mw97)) (fun _ h9 => h9) rfl dX1_digestOfLeaves_46 ?_
      refine lv_iload hx hb dX1_digestOfLeaves_49 (lv_at hl 2 rfl) ?_
      refine kz_lald (v := cnt (σ 0 ja) (σ 1 ja)) hx hb hM.1 hP 1 1 rfl rfl (by omega) (by decide) rfl dX1_digestOfLeaves_51 ?_
      refine kc2 (va_runV (As := [.long (lZ (dLi σ (dLs σ dd ja) ja 8)), .long (lZ (cnt (σ 0 ja) (σ 1 ja)))]) (rest := []) ⟨hx, hb, hml, hown, hts⟩ (c_X1_withText l dC dI dA k q σ _ hG hOK hq ((dLi σ (dLs σ dd ja) ja 8)) ((cnt (σ 0 ja) (σ 1 ja))) (cnt_13 hOK hk_ja)) (cwV 2 hts (kg_V mw238 mw239 mw7 mw42 rfl mw240) rfl rfl rfl hdV_X1_withText ⟨Nat.le_of_ble_eq_true rfl, Nat.le_of_ble_eq_true rfl⟩) ⟨fun a U g mk q => ⟨q.1, q.2.1, kMJ_call q.2.2⟩, va_recv hMJ.1.1 hP (ci := 4) (q0 := 0) rfl rfl, fun U hU hW => ⟨rfl, hU, kMJ_kept hMJ hS hAN hU hW⟩⟩ rfl rfl hl.1 rfl (lv_room (Nat.le_of_ble_eq_true rfl)) dX1_digestOfLeaves_52 ⟨show (0 + 16 * ja + 2 * 8 : Nat) + 0 ≤ 64 from by omega, show (0 + 96 * ja + 12 * 8 : Nat) + 0 ≤ 384 from by omega⟩) hS (fun a _ h => kA_up hS.1 a h) (fun a h => kA_up hS.1 a h) (fun H locs hG hy9 hk9 hS => ?_)
      obtain ⟨tb, tn, tm, htn, hfit, htm, hP⟩ := id hG
      clear hy9 hk9
      refine lv_lstore_n (lv' := [(3, .long (lZ (wtx ((dLi σ (dLs σ dd ja) ja 8)) ((cnt (σ 0 ja) (σ 1 ja)))))), (6, .int (iZ (((8 : Nat) : Int)))), (5, .int (iZ ((ja : Nat) : Int))), (0, .ref (q 0)), (1, .long (lZ (dd)))]) hx hb dX1_digestOfLeaves_55 rfl hl (by decide) rfl (fun ls hl => ?_)
      refine lv_iinc (v := iZ (((ja : Nat) : Int) + 1)) (lv' := [(5, .int (iZ (((ja : Nat) : Int) + 1))), (3, .long (lZ (wtx ((dLi σ (dLs σ dd ja) ja 8)) ((cnt (σ 0 ja) (σ 1 ja)))))), (6, .int (iZ (((8 : Nat) : Int)))), (0, .ref (q 0)), (1, .long (lZ (dd)))]) hx hb dX1_digestOfLeaves_56 hl (k := 2) rfl (iZ_add _ _) (by decide) rfl (fun ls hl => ?_)
      refine lv_goto (tgt := 5) hx hb dX1_digestOfLeaves_59 (by decide) ?_
      refine W.widen (k := 0 + 16 * (ja + 1)) (n := 0 + 96 * (ja + 1)) (show (0 + 16 * ja + 2 * 8 : Nat) ≤ 0 + 16 * (ja + 1) from by omega) (show (0 + 96 * ja + 12 * 8 : Nat) ≤ 0 + 96 * (ja + 1) from by omega) ?_
      exact ih_ja _ _ ls ⟨by have h9 := lv_sub hl [1, 0, 3, 4] rfl; rw [show wtx (dLi σ (dLs σ dd ja) ja 8) (cnt (σ 0 ja) (σ 1 ja)) = dLs σ dd (ja + 1) from rfl, show ((ja : Nat) : Int) + 1 = ((ja + 1 : Nat) : Int) from by omega] at h9; exact h9, hG, hS⟩
    · obtain ⟨hl, hG, hS⟩ := hI
      obtain ⟨tb, tn, tm, htn, hfit, htm, hP⟩ := id hG
      refine lv_iload hx hb dX1_digestOfLeaves_14 (lv_at hl 1 rfl) ?_
      refine lv_bipush (v := iZ 7) hx hb dX1_digestOfLeaves_16 rfl ?_
      refine kz_icmp_gt (tgt := 43) hx hb (by first | omega | (have := ofL_rng hOK hk_ja ((jb : Nat) : Int); omega)) (by first | omega | (have := ofL_rng hOK hk_ja ((jb : Nat) : Int); omega)) dX1_digestOfLeaves_18 (by decide) (fun c_4 => absurd c_4 (by omega)) (fun c_4 => ?_)
      refine lv_lload_n hx hb dX1_digestOfLeaves_21 rfl (lv_at hl 0 rfl) ?_
      refine lv_ldc2 (v := lZ 31) hx hb hown (hts _ (List.mem_cons_of_mem _ mw219)) dX1_digestOfLeaves_22 ?_
      refine kz_lmul hx hb dX1_digestOfLeaves_25 ?_
      refine lv_aload_n hx hb dX1_digestOfLeaves_26 rfl (lv_at hl 3 rfl) ?_
      refine lv_iload hx hb dX1_digestOfLeaves_27 (lv_at hl 2 rfl) ?_
      refine lv_iload hx hb dX1_digestOfLeaves_29 (lv_at hl 1 rfl) ?_
      refine kc2 (va_runV (As := [.int (iZ ((ja : Nat) : Int)), .int (iZ ((jb : Nat) : Int))]) (rest := [.long (lZ ((dLi σ (dLs σ dd ja) ja jb) * 31))]) ⟨hx, hb, hml, hown, hts⟩ (kMet_noX (c_X1_ofLeaf l hst dC dI dA k q σ _ hG hOK hq (((ja : Nat) : Int)) (((jb : Nat) : Int)) (by omega) (by omega)) (fun E h => by have e9 : ex2 (!inb (((ja : Nat) : Int)) 0 3) (!inb (((jb : Nat) : Int)) 0 7) = 0 := ex2_0 (by (simp only [inb, noThing_iff, noThing_niff, Bool.not_eq_true', Bool.not_eq_false', Bool.or_eq_true, Bool.or_eq_false_iff, decide_eq_true_eq, decide_eq_false_iff_not] <;> omega)) (by first | rfl | (simp only [inb, noThing_iff, noThing_niff, Bool.not_eq_true', Bool.not_eq_false', Bool.or_eq_true, Bool.or_eq_false_iff, decide_eq_true_eq, decide_eq_false_iff_not] <;> omega)); rcases h with h | h <;> (have h8 := h.1; omega))) (cwV 2 hts (kg_V mw220 mw221 mw222 mw42 rfl mw223) rfl rfl rfl hdV_X1_ofLeaf ⟨Nat.le_of_ble_eq_true rfl, Nat.le_of_ble_eq_true rfl⟩) ⟨fun a U g mk q => ⟨q.1, q.2.1, kM_call q.2.2⟩, va_recv hM.1 hP (ci := 4) (q0 := 0) rfl rfl, fun U hU hW => ⟨rfl, hU, kM_kept hM hS hAN hU hW⟩⟩ rfl rfl hl.1 rfl (lv_room (Nat.le_of_ble_eq_true rfl)) dX1_digestOfLeaves_31 ⟨show (0 + 16 * ja + 2 * jb : Nat) + 2 ≤ 64 from by omega, show (0 + 96 * ja + 12 * jb : Nat) + 12 ≤ 384 from by omega⟩) hS (fun a _ h => kA_up hS.1 a h) (fun a h => kA_up hS.1 a h) (fun H locs hG hy9 hk9 hS => ?_)
      obtain ⟨tb, tn, tm, htn, hfit, htm, hP⟩ := id hG
      clear hy9 hk9
      refine W.eq (g2 := F0 m 34 ls [.int (iZ (ofL σ ja (((jb : Nat) : Int)))), .long (lZ ((dLi σ (dLs σ dd ja) ja jb) * 31))]) rfl ?_
      refine kz_i2l hx hb (by first | omega | (have := ofL_rng hOK hk_ja ((jb : Nat) : Int); omega)) dX1_digestOfLeaves_34 ?_
      refine kz_ladd hx hb dX1_digestOfLeaves_35 ?_
      refine lv_lstore_n (lv' := [(3, .long (lZ (((dLi σ (dLs σ dd ja) ja jb) * 31) + ((ofL σ ja (((jb : Nat) : Int))))))), (6, .int (iZ ((jb : Nat) : Int))), (5, .int (iZ ((ja : Nat) : Int))), (0, .ref (q 0)), (1, .long (lZ (dd)))]) hx hb dX1_digestOfLeaves_36 rfl hl (by decide) rfl (fun ls hl => ?_)
      refine lv_iinc (v := iZ (((jb : Nat) : Int) + 1)) (lv' := [(6, .int (iZ (((jb : Nat) : Int) + 1))), (3, .long (lZ (((dLi σ (dLs σ dd ja) ja jb) * 31) + ((ofL σ ja (((jb : Nat) : Int))))))), (5, .int (iZ ((ja : Nat) : Int))), (0, .ref (q 0)), (1, .long (lZ (dd)))]) hx hb dX1_digestOfLeaves_37 hl (k := 1) rfl (iZ_add _ _) (by decide) rfl (fun ls hl => ?_)
      refine lv_goto (tgt := 14) hx hb dX1_digestOfLeaves_40 (by decide) ?_
      refine W.widen (k := 0 + 16 * ja + 2 * (jb + 1)) (n := 0 + 96 * ja + 12 * (jb + 1)) (show (0 + 16 * ja + 2 * jb + 2 : Nat) ≤ 0 + 16 * ja + 2 * (jb + 1) from by omega) (show (0 + 96 * ja + 12 * jb + 12 : Nat) ≤ 0 + 96 * ja + 12 * (jb + 1) from by omega) ?_
      exact ih_jb _ _ ls ⟨by have h9 := lv_sub hl [1, 0, 2, 3, 4] rfl; rw [show dLi σ (dLs σ dd ja) ja jb * 31 + ofL σ ja ((jb : Nat) : Int) = dLi σ (dLs σ dd ja) ja (jb + 1) from rfl, show ((jb : Nat) : Int) + 1 = ((jb + 1 : Nat) : Int) from by omega] at h9; exact h9, hG, hS⟩

abbrev ww_X1_digestOfYears : List Cond := .code yX1_digestOfYears cX1_digestOfYears 7 (some .long) :: gT
set_option maxHeartbeats 4000000 in
set_option maxRecDepth 100000 in
theorem c_X1_digestOfYears (l : Launch) (hst : l.stackTraces = false) (dC : Nat → ClassId) (dI : Nat → Nat → Nat) (dA : Nat → ClassId) (k : Nat → Nat) (q : Nat → Nat) (σ : Nat → Nat → Int) (H0 : Heap) (hG : gX dC dI dA q σ H0) (hOK : kOK σ) (hq : kQI q k) (dd : Int) : Met l yX1_digestOfYears ww_X1_digestOfYears ({ frames := 10, cells := 40, slots := 240, locals := 345 }) (va_Pc [.ref (q 0), .long (lZ (dd))] (fun U => U.heap = H0 ∧ kMJ dC dI dA k U)) (kQ2 (some (.long (lZ (dYs σ dd 4)))) (gX dC dI dA q σ) (kA q H0.size)) 40 240 (kA q H0.size) := by
  refine Met.ofW (cc := cX1_digestOfYears) (maxL := 7) (ret := (some .long)) (by decide) rfl ?_
  intro p e s m args below meth c s₁ B hml hv
  obtain ⟨rfl, hH, hMJ⟩ := hv
  subst hH
  obtain ⟨tb, tn, tm, htn, hfit, htm, hP⟩ := id hG
  have hM := hMJ.1
  have hAN : ∀ a, kA q s.heap.size a → k 0 ≤ a := kA_N hq hM.2.1.1
  have hne78 : q 7 ≠ q 8 := fun z => absurd (hq.1 7 8 (by decide) (by decide) z) (by decide)
  have hk7 := hq.2 7 (by decide)
  have hk8 := hq.2 8 (by decide)
  have hS : va_S (kA q s.heap.size) s.heap s.heap [] := va_S.rf
  have hx := B.exec
  have hb := B.bytes
  have hr9 := B.returns
  have hts := atoms_spec (ws := ww_X1_digestOfYears) B.pre
  have hown : s.vm.findClass RX1 = some m.cls := findClass_of_methodNamed B.named
  have hlocks := B.notSynchronized
  have hl := lv_entry ([.ref (q 0), .long (lZ (dd))]) (n := 7) (Nat.le_of_ble_eq_true rfl)
  rw [lg_entry_eq]
  generalize (lg_sl ([.ref (q 0), .long (lZ (dd))]) ++ List.replicate (7 - (lg_sl ([.ref (q 0), .long (lZ (dd))])).length) Slot.unset).toArray = ls at hl ⊢
  have hl : lv_has ls 7 [(0, .ref (q 0)), (1, .long (lZ (dd)))] := hl
  refine lv_lload_n hx hb dX1_digestOfYears_0 rfl (lv_at hl 1 rfl) ?_
  refine lv_lstore_n (lv' := [(3, .long (lZ (dd))), (0, .ref (q 0)), (1, .long (lZ (dd)))]) hx hb dX1_digestOfYears_1 rfl hl (by decide) rfl (fun ls hl => ?_)
  refine lv_iconst (v := iZ 0) hx hb dX1_digestOfYears_2 rfl ?_
  refine lv_istore (lv' := [(5, .int (iZ 0)), (3, .long (lZ (dd))), (0, .ref (q 0)), (1, .long (lZ (dd)))]) hx hb dX1_digestOfYears_3 hl (by decide) rfl (fun ls hl => ?_)
  refine k_loop4 (W := fun (ja : Nat) (H : Heap) (locs : List Loc) (ls : Array Slot) => W p l e _ s m _ below meth c H locs (0 + 10 * ja) (0 + 60 * ja) _ (F0 m 5 ls [])) (fun (ja : Nat) (H : Heap) (locs : List Loc) (ls : Array Slot) => lv_has ls 7 [(3, .long (lZ (dYs σ dd ja))), (5, .int (iZ ((ja : Nat) : Int))), (0, .ref (q 0)), (1, .long (lZ (dd)))] ∧ gX dC dI dA q σ H ∧ va_S (kA q s.heap.size) s.heap H locs) 4 (fun H locs ls hI => ?_) (fun ja H locs ls hk_ja hI ih_ja => ?_) _ _ _ ⟨by have h9 := lv_sub hl [1, 0, 2, 3] rfl; exact h9, hG, hS⟩
  · obtain ⟨hl, hG, hS⟩ := hI
    obtain ⟨tb, tn, tm, htn, hfit, htm, hP⟩ := id hG
    refine lv_iload hx hb dX1_digestOfYears_5 (lv_at hl 1 rfl) ?_
    refine lv_iconst (v := iZ 4) hx hb dX1_digestOfYears_7 rfl ?_
    refine kz_icmp_ge (tgt := 48) hx hb (by first | omega | (have := ofY_rng hOK hk_ja ((jb : Nat) : Int); omega)) (by first | omega | (have := ofY_rng hOK hk_ja ((jb : Nat) : Int); omega)) dX1_digestOfYears_8 (by decide) (fun c_1 => ?_) (fun c_1 => absurd c_1 (by omega))
    refine lv_lload_n hx hb dX1_digestOfYears_48 rfl (lv_at hl 0 rfl) ?_
    refine W.widen (k := 40) (n := 240) (show (0 + 10 * 4 : Nat) ≤ 40 from by omega) (show (0 + 60 * 4 : Nat) ≤ 240 from by omega) ?_
    exact W.lret (v := lZ (dYs σ dd 4)) hx hb hr9 (fun t ht hW => ⟨⟨congrArg (fun z : Int => Outcome.returned (some (Value.long (lZ z)))) (show (dYs σ dd 4) = dYs σ dd 4 from rfl), by rw [ht]; exact hG⟩, hS.F ht⟩) hS.2.2 dX1_digestOfYears_49
  · obtain ⟨hl, hG, hS⟩ := hI
    obtain ⟨tb, tn, tm, htn, hfit, htm, hP⟩ := id hG
    have o_ja := kOKr hOK hk_ja
    refine lv_iload hx hb dX1_digestOfYears_5 (lv_at hl 1 rfl) ?_
    refine lv_iconst (v := iZ 4) hx hb dX1_digestOfYears_7 rfl ?_
    refine kz_icmp_ge (tgt := 48) hx hb (by first | omega | (have := ofY_rng hOK hk_ja ((jb : Nat) : Int); omega)) (by first | omega | (have := ofY_rng hOK hk_ja ((jb : Nat) : Int); omega)) dX1_digestOfYears_8 (by decide) (fun c_2 => absurd c_2 (by omega)) (fun c_2 => ?_)
    refine lv_iconst (v := iZ 0) hx hb dX1_digestOfYears_11 rfl ?_
    refine lv_istore (lv' := [(6, .int (iZ 0)), (3, .long (lZ (dYs σ dd ja))), (5, .int (iZ ((ja : Nat) : Int))), (0, .ref (q 0)), (1, .long (lZ (dd)))]) hx hb dX1_digestOfYears_12 hl (by decide) rfl (fun ls hl => ?_)
    refine k_loop4 (W := fun (jb : Nat) (H : Heap) (locs : List Loc) (ls : Array Slot) => W p l e _ s m _ below meth c H locs (0 + 10 * ja + 2 * jb) (0 + 60 * ja + 12 * jb) _ (F0 m 14 ls [])) (fun (jb : Nat) (H : Heap) (locs : List Loc) (ls : Array Slot) => lv_has ls 7 [(3, .long (lZ (dYi σ (dYs σ dd ja) ja jb))), (6, .int (iZ ((jb : Nat) : Int))), (5, .int (iZ ((ja : Nat) : Int))), (0, .ref (q 0)), (1, .long (lZ (dd)))] ∧ gX dC dI dA q σ H ∧ va_S (kA q s.heap.size) s.heap H locs) 5 (fun H locs ls hI => ?_) (fun jb H locs ls hk_jb hI ih_jb => ?_) _ _ _ ⟨by have h9 := lv_sub hl [1, 0, 2, 3, 4] rfl; exact h9, hG, hS⟩
    · obtain ⟨hl, hG, hS⟩ := hI
      obtain ⟨tb, tn, tm, htn, hfit, htm, hP⟩ := id hG
      refine lv_iload hx hb dX1_digestOfYears_14 (lv_at hl 1 rfl) ?_
      refine lv_iconst (v := iZ 4) hx hb dX1_digestOfYears_16 rfl ?_
      refine kz_icmp_gt (tgt := 42) hx hb (by first | omega | (have := ofY_rng hOK hk_ja ((jb : Nat) : Int); omega)) (by first | omega | (have := ofY_rng hOK hk_ja ((jb : Nat) : Int); omega)) dX1_digestOfYears_17 (by decide) (fun c_3 => ?_) (fun c_3 => absurd c_3 (by omega))
      refine lv_iinc (v := iZ (((ja : Nat) : Int) + 1)) (lv' := [(5, .int (iZ (((ja : Nat) : Int) + 1))), (3, .long (lZ (dYi σ (dYs σ dd ja) ja 5))), (6, .int (iZ (((5 : Nat) : Int)))), (0, .ref (q 0)), (1, .long (lZ (dd)))]) hx hb dX1_digestOfYears_42 hl (k := 2) rfl (iZ_add _ _) (by decide) rfl (fun ls hl => ?_)
      refine lv_goto (tgt := 5) hx hb dX1_digestOfYears_45 (by decide) ?_
      refine W.widen (k := 0 + 10 * (ja + 1)) (n := 0 + 60 * (ja + 1)) (show (0 + 10 * ja + 2 * 5 : Nat) ≤ 0 + 10 * (ja + 1) from by omega) (show (0 + 60 * ja + 12 * 5 : Nat) ≤ 0 + 60 * (ja + 1) from by omega) ?_
      exact ih_ja _ _ ls ⟨by have h9 := lv_sub hl [1, 0, 3, 4] rfl; rw [show dYi σ (dYs σ dd ja) ja 5 = dYs σ dd (ja + 1) from rfl, show ((ja : Nat) : Int) + 1 = ((ja + 1 : Nat) : Int) from by omega] at h9; exact h9, hG, hS⟩
    · obtain ⟨hl, hG, hS⟩ := hI
      obtain ⟨tb, tn, tm, htn, hfit, htm, hP⟩ := id hG
      refine lv_iload hx hb dX1_digestOfYears_14 (lv_at hl 1 rfl) ?_
      refine lv_iconst (v := iZ 4) hx hb dX1_digestOfYears_16 rfl ?_
      refine kz_icmp_gt (tgt := 42) hx hb (by first | omega | (have := ofY_rng hOK hk_ja ((jb : Nat) : Int); omega)) (by first | omega | (have := ofY_rng hOK hk_ja ((jb : Nat) : Int); omega)) dX1_digestOfYears_17 (by decide) (fun c_4 => absurd c_4 (by omega)) (fun c_4 => ?_)
      refine lv_lload_n hx hb dX1_digestOfYears_20 rfl (lv_at hl 0 rfl) ?_
      refine lv_ldc2 (v := lZ 31) hx hb hown (hts _ (List.mem_cons_of_mem _ mw219)) dX1_digestOfYears_21 ?_
      refine kz_lmul hx hb dX1_digestOfYears_24 ?_
      refine lv_aload_n hx hb dX1_digestOfYears_25 rfl (lv_at hl 3 rfl) ?_
      refine lv_iload hx hb dX1_digestOfYears_26 (lv_at hl 2 rfl) ?_
      refine lv_iload hx hb dX1_digestOfYears_28 (lv_at hl 1 rfl) ?_
      refine kc2 (va_runV (As := [.int (iZ ((ja : Nat) : Int)), .int (iZ ((jb : Nat) : Int))]) (rest := [.long (lZ ((dYi σ (dYs σ dd ja) ja jb) * 31))]) ⟨hx, hb, hml, hown, hts⟩ (kMet_noX (c_X1_ofYear l hst dC dI dA k q σ _ hG hOK hq (((ja : Nat) : Int)) (((jb : Nat) : Int)) (by omega) (by omega)) (fun E h => by have e9 : ex2 (!inb (((ja : Nat) : Int)) 0 3) (!inb (((jb : Nat) : Int)) 0 4) = 0 := ex2_0 (by (simp only [inb, noThing_iff, noThing_niff, Bool.not_eq_true', Bool.not_eq_false', Bool.or_eq_true, Bool.or_eq_false_iff, decide_eq_true_eq, decide_eq_false_iff_not] <;> omega)) (by first | rfl | (simp only [inb, noThing_iff, noThing_niff, Bool.not_eq_true', Bool.not_eq_false', Bool.or_eq_true, Bool.or_eq_false_iff, decide_eq_true_eq, decide_eq_false_iff_not] <;> omega)); rcases h with h | h <;> (have h8 := h.1; omega))) (cwV 2 hts (kg_V mw530 mw531 mw532 mw42 rfl mw533) rfl rfl rfl hdV_X1_ofYear ⟨Nat.le_of_ble_eq_true rfl, Nat.le_of_ble_eq_true rfl⟩) ⟨fun a U g mk q => ⟨q.1, q.2.1, kM_call q.2.2⟩, va_recv hM.1 hP (ci := 4) (q0 := 0) rfl rfl, fun U hU hW => ⟨rfl, hU, kM_kept hM hS hAN hU hW⟩⟩ rfl rfl hl.1 rfl (lv_room (Nat.le_of_ble_eq_true rfl)) dX1_digestOfYears_30 ⟨show (0 + 10 * ja + 2 * jb : Nat) + 2 ≤ 40 from by omega, show (0 + 60 * ja + 12 * jb : Nat) + 12 ≤ 240 from by omega⟩) hS (fun a _ h => kA_up hS.1 a h) (fun a h => kA_up hS.1 a h) (fun H locs hG hy9 hk9 hS => ?_)
      obtain ⟨tb, tn, tm, htn, hfit, htm, hP⟩ := id hG
      clear hy9 hk9
      refine W.eq (g2 := F0 m 33 ls [.int (iZ (ofY σ ja (((jb : Nat) : Int)))), .long (lZ ((dYi σ (dYs σ dd ja) ja jb) * 31))]) rfl ?_
      refine kz_i2l hx hb (by first | omega | (have := ofY_rng hOK hk_ja ((jb : Nat) : Int); omega)) dX1_digestOfYears_33 ?_
      refine kz_ladd hx hb dX1_digestOfYears_34 ?_
      refine lv_lstore_n (lv' := [(3, .long (lZ (((dYi σ (dYs σ dd ja) ja jb) * 31) + ((ofY σ ja (((jb : Nat) : Int))))))), (6, .int (iZ ((jb : Nat) : Int))), (5, .int (iZ ((ja : Nat) : Int))), (0, .ref (q 0)), (1, .long (lZ (dd)))]) hx hb dX1_digestOfYears_35 rfl hl (by decide) rfl (fun ls hl => ?_)
      refine lv_iinc (v := iZ (((jb : Nat) : Int) + 1)) (lv' := [(6, .int (iZ (((jb : Nat) : Int) + 1))), (3, .long (lZ (((dYi σ (dYs σ dd ja) ja jb) * 31) + ((ofY σ ja (((jb : Nat) : Int))))))), (5, .int (iZ ((ja : Nat) : Int))), (0, .ref (q 0)), (1, .long (lZ (dd)))]) hx hb dX1_digestOfYears_36 hl (k := 1) rfl (iZ_add _ _) (by decide) rfl (fun ls hl => ?_)
      refine lv_goto (tgt := 14) hx hb dX1_digestOfYears_39 (by decide) ?_
      refine W.widen (k := 0 + 10 * ja + 2 * (jb + 1)) (n := 0 + 60 * ja + 12 * (jb + 1)) (show (0 + 10 * ja + 2 * jb + 2 : Nat) ≤ 0 + 10 * ja + 2 * (jb + 1) from by omega) (show (0 + 60 * ja + 12 * jb + 12 : Nat) ≤ 0 + 60 * ja + 12 * (jb + 1) from by omega) ?_
      exact ih_jb _ _ ls ⟨by have h9 := lv_sub hl [1, 0, 2, 3, 4] rfl; rw [show dYi σ (dYs σ dd ja) ja jb * 31 + ofY σ ja ((jb : Nat) : Int) = dYi σ (dYs σ dd ja) ja (jb + 1) from rfl, show ((jb : Nat) : Int) + 1 = ((jb + 1 : Nat) : Int) from by omega] at h9; exact h9, hG, hS⟩

abbrev ww_X1_digestOfFeasts : List Cond := .code yX1_digestOfFeasts cX1_digestOfFeasts 7 (some .long) :: gT
set_option maxHeartbeats 4000000 in
set_option maxRecDepth 100000 in
theorem c_X1_digestOfFeasts (l : Launch) (hst : l.stackTraces = false) (dC : Nat → ClassId) (dI : Nat → Nat → Nat) (dA : Nat → ClassId) (k : Nat → Nat) (q : Nat → Nat) (σ : Nat → Nat → Int) (H0 : Heap) (hG : gX dC dI dA q σ H0) (hOK : kOK σ) (hq : kQI q k) (dd : Int) : Met l yX1_digestOfFeasts ww_X1_digestOfFeasts ({ frames := 10, cells := 40, slots := 240, locals := 344 }) (va_Pc [.ref (q 0), .long (lZ (dd))] (fun U => U.heap = H0 ∧ kMJ dC dI dA k U)) (kQ2 (some (.long (lZ (dFs σ dd 4)))) (gX dC dI dA q σ) (kA q H0.size)) 40 240 (kA q H0.size) := by
  refine Met.ofW (cc := cX1_digestOfFeasts) (maxL := 7) (ret := (some .long)) (by decide) rfl ?_
  intro p e s m args below meth c s₁ B hml hv
  obtain ⟨rfl, hH, hMJ⟩ := hv
  subst hH
  obtain ⟨tb, tn, tm, htn, hfit, htm, hP⟩ := id hG
  have hM := hMJ.1
  have hAN : ∀ a, kA q s.heap.size a → k 0 ≤ a := kA_N hq hM.2.1.1
  have hne78 : q 7 ≠ q 8 := fun z => absurd (hq.1 7 8 (by decide) (by decide) z) (by decide)
  have hk7 := hq.2 7 (by decide)
  have hk8 := hq.2 8 (by decide)
  have hS : va_S (kA q s.heap.size) s.heap s.heap [] := va_S.rf
  have hx := B.exec
  have hb := B.bytes
  have hr9 := B.returns
  have hts := atoms_spec (ws := ww_X1_digestOfFeasts) B.pre
  have hown : s.vm.findClass RX1 = some m.cls := findClass_of_methodNamed B.named
  have hlocks := B.notSynchronized
  have hl := lv_entry ([.ref (q 0), .long (lZ (dd))]) (n := 7) (Nat.le_of_ble_eq_true rfl)
  rw [lg_entry_eq]
  generalize (lg_sl ([.ref (q 0), .long (lZ (dd))]) ++ List.replicate (7 - (lg_sl ([.ref (q 0), .long (lZ (dd))])).length) Slot.unset).toArray = ls at hl ⊢
  have hl : lv_has ls 7 [(0, .ref (q 0)), (1, .long (lZ (dd)))] := hl
  refine lv_lload_n hx hb dX1_digestOfFeasts_0 rfl (lv_at hl 1 rfl) ?_
  refine lv_lstore_n (lv' := [(3, .long (lZ (dd))), (0, .ref (q 0)), (1, .long (lZ (dd)))]) hx hb dX1_digestOfFeasts_1 rfl hl (by decide) rfl (fun ls hl => ?_)
  refine lv_iconst (v := iZ 0) hx hb dX1_digestOfFeasts_2 rfl ?_
  refine lv_istore (lv' := [(5, .int (iZ 0)), (3, .long (lZ (dd))), (0, .ref (q 0)), (1, .long (lZ (dd)))]) hx hb dX1_digestOfFeasts_3 hl (by decide) rfl (fun ls hl => ?_)
  refine k_loop4 (W := fun (ja : Nat) (H : Heap) (locs : List Loc) (ls : Array Slot) => W p l e _ s m _ below meth c H locs (0 + 10 * ja) (0 + 60 * ja) _ (F0 m 5 ls [])) (fun (ja : Nat) (H : Heap) (locs : List Loc) (ls : Array Slot) => lv_has ls 7 [(3, .long (lZ (dFs σ dd ja))), (5, .int (iZ ((ja : Nat) : Int))), (0, .ref (q 0)), (1, .long (lZ (dd)))] ∧ gX dC dI dA q σ H ∧ va_S (kA q s.heap.size) s.heap H locs) 4 (fun H locs ls hI => ?_) (fun ja H locs ls hk_ja hI ih_ja => ?_) _ _ _ ⟨by have h9 := lv_sub hl [1, 0, 2, 3] rfl; exact h9, hG, hS⟩
  · obtain ⟨hl, hG, hS⟩ := hI
    obtain ⟨tb, tn, tm, htn, hfit, htm, hP⟩ := id hG
    refine lv_iload hx hb dX1_digestOfFeasts_5 (lv_at hl 1 rfl) ?_
    refine lv_iconst (v := iZ 4) hx hb dX1_digestOfFeasts_7 rfl ?_
    refine kz_icmp_ge (tgt := 48) hx hb (by first | omega | (have := ofF_rng hOK hk_ja ((jb : Nat) : Int); omega)) (by first | omega | (have := ofF_rng hOK hk_ja ((jb : Nat) : Int); omega)) dX1_digestOfFeasts_8 (by decide) (fun c_1 => ?_) (fun c_1 => absurd c_1 (by omega))
    refine lv_lload_n hx hb dX1_digestOfFeasts_48 rfl (lv_at hl 0 rfl) ?_
    refine W.widen (k := 40) (n := 240) (show (0 + 10 * 4 : Nat) ≤ 40 from by omega) (show (0 + 60 * 4 : Nat) ≤ 240 from by omega) ?_
    exact W.lret (v := lZ (dFs σ dd 4)) hx hb hr9 (fun t ht hW => ⟨⟨congrArg (fun z : Int => Outcome.returned (some (Value.long (lZ z)))) (show (dFs σ dd 4) = dFs σ dd 4 from rfl), by rw [ht]; exact hG⟩, hS.F ht⟩) hS.2.2 dX1_digestOfFeasts_49
  · obtain ⟨hl, hG, hS⟩ := hI
    obtain ⟨tb, tn, tm, htn, hfit, htm, hP⟩ := id hG
    have o_ja := kOKr hOK hk_ja
    refine lv_iload hx hb dX1_digestOfFeasts_5 (lv_at hl 1 rfl) ?_
    refine lv_iconst (v := iZ 4) hx hb dX1_digestOfFeasts_7 rfl ?_
    refine kz_icmp_ge (tgt := 48) hx hb (by first | omega | (have := ofF_rng hOK hk_ja ((jb : Nat) : Int); omega)) (by first | omega | (have := ofF_rng hOK hk_ja ((jb : Nat) : Int); omega)) dX1_digestOfFeasts_8 (by decide) (fun c_2 => absurd c_2 (by omega)) (fun c_2 => ?_)
    refine lv_iconst (v := iZ 0) hx hb dX1_digestOfFeasts_11 rfl ?_
    refine lv_istore (lv' := [(6, .int (iZ 0)), (3, .long (lZ (dFs σ dd ja))), (5, .int (iZ ((ja : Nat) : Int))), (0, .ref (q 0)), (1, .long (lZ (dd)))]) hx hb dX1_digestOfFeasts_12 hl (by decide) rfl (fun ls hl => ?_)
    refine k_loop4 (W := fun (jb : Nat) (H : Heap) (locs : List Loc) (ls : Array Slot) => W p l e _ s m _ below meth c H locs (0 + 10 * ja + 2 * jb) (0 + 60 * ja + 12 * jb) _ (F0 m 14 ls [])) (fun (jb : Nat) (H : Heap) (locs : List Loc) (ls : Array Slot) => lv_has ls 7 [(3, .long (lZ (dFi σ (dFs σ dd ja) ja jb))), (6, .int (iZ ((jb : Nat) : Int))), (5, .int (iZ ((ja : Nat) : Int))), (0, .ref (q 0)), (1, .long (lZ (dd)))] ∧ gX dC dI dA q σ H ∧ va_S (kA q s.heap.size) s.heap H locs) 5 (fun H locs ls hI => ?_) (fun jb H locs ls hk_jb hI ih_jb => ?_) _ _ _ ⟨by have h9 := lv_sub hl [1, 0, 2, 3, 4] rfl; exact h9, hG, hS⟩
    · obtain ⟨hl, hG, hS⟩ := hI
      obtain ⟨tb, tn, tm, htn, hfit, htm, hP⟩ := id hG
      refine lv_iload hx hb dX1_digestOfFeasts_14 (lv_at hl 1 rfl) ?_
      refine lv_iconst (v := iZ 4) hx hb dX1_digestOfFeasts_16 rfl ?_
      refine kz_icmp_gt (tgt := 42) hx hb (by first | omega | (have := ofF_rng hOK hk_ja ((jb : Nat) : Int); omega)) (by first | omega | (have := ofF_rng hOK hk_ja ((jb : Nat) : Int); omega)) dX1_digestOfFeasts_17 (by decide) (fun c_3 => ?_) (fun c_3 => absurd c_3 (by omega))
      refine lv_iinc (v := iZ (((ja : Nat) : Int) + 1)) (lv' := [(5, .int (iZ (((ja : Nat) : Int) + 1))), (3, .long (lZ (dFi σ (dFs σ dd ja) ja 5))), (6, .int (iZ (((5 : Nat) : Int)))), (0, .ref (q 0)), (1, .long (lZ (dd)))]) hx hb dX1_digestOfFeasts_42 hl (k := 2) rfl (iZ_add _ _) (by decide) rfl (fun ls hl => ?_)
      refine lv_goto (tgt := 5) hx hb dX1_digestOfFeasts_45 (by decide) ?_
      refine W.widen (k := 0 + 10 * (ja + 1)) (n := 0 + 60 * (ja + 1)) (show (0 + 10 * ja + 2 * 5 : Nat) ≤ 0 + 10 * (ja + 1) from by omega) (show (0 + 60 * ja + 12 * 5 : Nat) ≤ 0 + 60 * (ja + 1) from by omega) ?_
      exact ih_ja _ _ ls ⟨by have h9 := lv_sub hl [1, 0, 3, 4] rfl; rw [show dFi σ (dFs σ dd ja) ja 5 = dFs σ dd (ja + 1) from rfl, show ((ja : Nat) : Int) + 1 = ((ja + 1 : Nat) : Int) from by omega] at h9; exact h9, hG, hS⟩
    · obtain ⟨hl, hG, hS⟩ := hI
      obtain ⟨tb, tn, tm, htn, hfit, htm, hP⟩ := id hG
      refine lv_iload hx hb dX1_digestOfFeasts_14 (lv_at hl 1 rfl) ?_
      refine lv_iconst (v := iZ 4) hx hb dX1_digestOfFeasts_16 rfl ?_
      refine kz_icmp_gt (tgt := 42) hx hb (by first | omega | (have := ofF_rng hOK hk_ja ((jb : Nat) : Int); omega)) (by first | omega | (have := ofF_rng hOK hk_ja ((jb : Nat) : Int); omega)) dX1_digestOfFeasts_17 (by decide) (fun c_4 => absurd c_4 (by omega)) (fun c_4 => ?_)
      refine lv_lload_n hx hb dX1_digestOfFeasts_20 rfl (lv_at hl 0 rfl) ?_
      refine lv_ldc2 (v := lZ 31) hx hb hown (hts _ (List.mem_cons_of_mem _ mw219)) dX1_digestOfFeasts_21 ?_
      refine kz_lmul hx hb dX1_digestOfFeasts_24 ?_
      refine lv_aload_n hx hb dX1_digestOfFeasts_25 rfl (lv_at hl 3 rfl) ?_
      refine lv_iload hx hb dX1_digestOfFeasts_26 (lv_at hl 2 rfl) ?_
      refine lv_iload hx hb dX1_digestOfFeasts_28 (lv_at hl 1 rfl) ?_
      refine kc2 (va_runV (As := [.int (iZ ((ja : Nat) : Int)), .int (iZ ((jb : Nat) : Int))]) (rest := [.long (lZ ((dFi σ (dFs σ dd ja) ja jb) * 31))]) ⟨hx, hb, hml, hown, hts⟩ (kMet_noX (c_X1_ofFeast l hst dC dI dA k q σ _ hG hOK hq (((ja : Nat) : Int)) (((jb : Nat) : Int)) (by omega) (by omega)) (fun E h => by have e9 : ex2 (!inb (((ja : Nat) : Int)) 0 3) (!inb (((jb : Nat) : Int)) 0 4) = 0 := ex2_0 (by (simp only [inb, noThing_iff, noThing_niff, Bool.not_eq_true', Bool.not_eq_false', Bool.or_eq_true, Bool.or_eq_false_iff, decide_eq_true_eq, decide_eq_false_iff_not] <;> omega)) (by first | rfl | (simp only [inb, noThing_iff, noThing_niff, Bool.not_eq_true', Bool.not_eq_false', Bool.or_eq_true, Bool.or_eq_false_iff, decide_eq_true_eq, decide_eq_false_iff_not] <;> omega)); rcases h with h | h <;> (have h8 := h.1; omega))) (cwV 2 hts (kg_V mw537 mw538 mw539 mw42 rfl mw540) rfl rfl rfl hdV_X1_ofFeast ⟨Nat.le_of_ble_eq_true rfl, Nat.le_of_ble_eq_true rfl⟩) ⟨fun a U g mk q => ⟨q.1, q.2.1, kM_call q.2.2⟩, va_recv hM.1 hP (ci := 4) (q0 := 0) rfl rfl, fun U hU hW => ⟨rfl, hU, kM_kept hM hS hAN hU hW⟩⟩ rfl rfl hl.1 rfl (lv_room (Nat.le_of_ble_eq_true rfl)) dX1_digestOfFeasts_30 ⟨show (0 + 10 * ja + 2 * jb : Nat) + 2 ≤ 40 from by omega, show (0 + 60 * ja + 12 * jb : Nat) + 12 ≤ 240 from by omega⟩) hS (fun a _ h => kA_up hS.1 a h) (fun a h => kA_up hS.1 a h) (fun H locs hG hy9 hk9 hS => ?_)
      obtain ⟨tb, tn, tm, htn, hfit, htm, hP⟩ := id hG
      clear hy9 hk9
      refine W.eq (g2 := F0 m 33 ls [.int (iZ (ofF σ ja (((jb : Nat) : Int)))), .long (lZ ((dFi σ (dFs σ dd ja) ja jb) * 31))]) rfl ?_
      refine kz_i2l hx hb (by first | omega | (have := ofF_rng hOK hk_ja ((jb : Nat) : Int); omega)) dX1_digestOfFeasts_33 ?_
      refine kz_ladd hx hb dX1_digestOfFeasts_34 ?_
      refine lv_lstore_n (lv' := [(3, .long (lZ (((dFi σ (dFs σ dd ja) ja jb) * 31) + ((ofF σ ja (((jb : Nat) : Int))))))), (6, .int (iZ ((jb : Nat) : Int))), (5, .int (iZ ((ja : Nat) : Int))), (0, .ref (q 0)), (1, .long (lZ (dd)))]) hx hb dX1_digestOfFeasts_35 rfl hl (by decide) rfl (fun ls hl => ?_)
      refine lv_iinc (v := iZ (((jb : Nat) : Int) + 1)) (lv' := [(6, .int (iZ (((jb : Nat) : Int) + 1))), (3, .long (lZ (((dFi σ (dFs σ dd ja) ja jb) * 31) + ((ofF σ ja (((jb : Nat) : Int))))))), (5, .int (iZ ((ja : Nat) : Int))), (0, .ref (q 0)), (1, .long (lZ (dd)))]) hx hb dX1_digestOfFeasts_36 hl (k := 1) rfl (iZ_add _ _) (by decide) rfl (fun ls hl => ?_)
      refine lv_goto (tgt := 14) hx hb dX1_digestOfFeasts_39 (by decide) ?_
      refine W.widen (k := 0 + 10 * ja + 2 * (jb + 1)) (n := 0 + 60 * ja + 12 * (jb + 1)) (show (0 + 10 * ja + 2 * jb + 2 : Nat) ≤ 0 + 10 * ja + 2 * (jb + 1) from by omega) (show (0 + 60 * ja + 12 * jb + 12 : Nat) ≤ 0 + 60 * ja + 12 * (jb + 1) from by omega) ?_
      exact ih_jb _ _ ls ⟨by have h9 := lv_sub hl [1, 0, 2, 3, 4] rfl; rw [show dFi σ (dFs σ dd ja) ja jb * 31 + ofF σ ja ((jb : Nat) : Int) = dFi σ (dFs σ dd ja) ja (jb + 1) from rfl, show ((jb : Nat) : Int) + 1 = ((jb + 1 : Nat) : Int) from by omega] at h9; exact h9, hG, hS⟩

abbrev ww_X1_digestOfDays : List Cond := .code yX1_digestOfDays cX1_digestOfDays 7 (some .long) :: gT
set_option maxHeartbeats 4000000 in
set_option maxRecDepth 100000 in
theorem c_X1_digestOfDays (l : Launch) (hst : l.stackTraces = false) (dC : Nat → ClassId) (dI : Nat → Nat → Nat) (dA : Nat → ClassId) (k : Nat → Nat) (q : Nat → Nat) (σ : Nat → Nat → Int) (H0 : Heap) (hG : gX dC dI dA q σ H0) (hOK : kOK σ) (hq : kQI q k) (dd : Int) : Met l yX1_digestOfDays ww_X1_digestOfDays ({ frames := 10, cells := 48, slots := 288, locals := 346 }) (va_Pc [.ref (q 0), .long (lZ (dd))] (fun U => U.heap = H0 ∧ kMJ dC dI dA k U)) (kQ2 (some (.long (lZ (dDs σ dd 4)))) (gX dC dI dA q σ) (kA q H0.size)) 48 288 (kA q H0.size) := by
  refine Met.ofW (cc := cX1_digestOfDays) (maxL := 7) (ret := (some .long)) (by decide) rfl ?_
  intro p e s m args below meth c s₁ B hml hv
  obtain ⟨rfl, hH, hMJ⟩ := hv
  subst hH
  obtain ⟨tb, tn, tm, htn, hfit, htm, hP⟩ := id hG
  have hM := hMJ.1
  have hAN : ∀ a, kA q s.heap.size a → k 0 ≤ a := kA_N hq hM.2.1.1
  have hne78 : q 7 ≠ q 8 := fun z => absurd (hq.1 7 8 (by decide) (by decide) z) (by decide)
  have hk7 := hq.2 7 (by decide)
  have hk8 := hq.2 8 (by decide)
  have hS : va_S (kA q s.heap.size) s.heap s.heap [] := va_S.rf
  have hx := B.exec
  have hb := B.bytes
  have hr9 := B.returns
  have hts := atoms_spec (ws := ww_X1_digestOfDays) B.pre
  have hown : s.vm.findClass RX1 = some m.cls := findClass_of_methodNamed B.named
  have hlocks := B.notSynchronized
  have hl := lv_entry ([.ref (q 0), .long (lZ (dd))]) (n := 7) (Nat.le_of_ble_eq_true rfl)
  rw [lg_entry_eq]
  generalize (lg_sl ([.ref (q 0), .long (lZ (dd))]) ++ List.replicate (7 - (lg_sl ([.ref (q 0), .long (lZ (dd))])).length) Slot.unset).toArray = ls at hl ⊢
  have hl : lv_has ls 7 [(0, .ref (q 0)), (1, .long (lZ (dd)))] := hl
  refine lv_lload_n hx hb dX1_digestOfDays_0 rfl (lv_at hl 1 rfl) ?_
  refine lv_lstore_n (lv' := [(3, .long (lZ (dd))), (0, .ref (q 0)), (1, .long (lZ (dd)))]) hx hb dX1_digestOfDays_1 rfl hl (by decide) rfl (fun ls hl => ?_)
  refine lv_iconst (v := iZ 0) hx hb dX1_digestOfDays_2 rfl ?_
  refine lv_istore (lv' := [(5, .int (iZ 0)), (3, .long (lZ (dd))), (0, .ref (q 0)), (1, .long (lZ (dd)))]) hx hb dX1_digestOfDays_3 hl (by decide) rfl (fun ls hl => ?_)
  refine k_loop4 (W := fun (ja : Nat) (H : Heap) (locs : List Loc) (ls : Array Slot) => W p l e _ s m _ below meth c H locs (0 + 12 * ja) (0 + 72 * ja) _ (F0 m 5 ls [])) (fun (ja : Nat) (H : Heap) (locs : List Loc) (ls : Array Slot) => lv_has ls 7 [(3, .long (lZ (dDs σ dd ja))), (5, .int (iZ ((ja : Nat) : Int))), (0, .ref (q 0)), (1, .long (lZ (dd)))] ∧ gX dC dI dA q σ H ∧ va_S (kA q s.heap.size) s.heap H locs) 4 (fun H locs ls hI => ?_) (fun ja H locs ls hk_ja hI ih_ja => ?_) _ _ _ ⟨by have h9 := lv_sub hl [1, 0, 2, 3] rfl; exact h9, hG, hS⟩
  · obtain ⟨hl, hG, hS⟩ := hI
    obtain ⟨tb, tn, tm, htn, hfit, htm, hP⟩ := id hG
    refine lv_iload hx hb dX1_digestOfDays_5 (lv_at hl 1 rfl) ?_
    refine lv_iconst (v := iZ 4) hx hb dX1_digestOfDays_7 rfl ?_
    refine kz_icmp_ge (tgt := 60) hx hb (by first | omega | (have := ofD_rng hOK hk_ja ((jb : Nat) : Int); omega)) (by first | omega | (have := ofD_rng hOK hk_ja ((jb : Nat) : Int); omega)) dX1_digestOfDays_8 (by decide) (fun c_1 => ?_) (fun c_1 => absurd c_1 (by omega))
    refine lv_lload_n hx hb dX1_digestOfDays_60 rfl (lv_at hl 0 rfl) ?_
    refine W.widen (k := 48) (n := 288) (show (0 + 12 * 4 : Nat) ≤ 48 from by omega) (show (0 + 72 * 4 : Nat) ≤ 288 from by omega) ?_
    exact W.lret (v := lZ (dDs σ dd 4)) hx hb hr9 (fun t ht hW => ⟨⟨congrArg (fun z : Int => Outcome.returned (some (Value.long (lZ z)))) (show (dDs σ dd 4) = dDs σ dd 4 from rfl), by rw [ht]; exact hG⟩, hS.F ht⟩) hS.2.2 dX1_digestOfDays_61
  · obtain ⟨hl, hG, hS⟩ := hI
    obtain ⟨tb, tn, tm, htn, hfit, htm, hP⟩ := id hG
    have o_ja := kOKr hOK hk_ja
    refine lv_iload hx hb dX1_digestOfDays_5 (lv_at hl 1 rfl) ?_
    refine lv_iconst (v := iZ 4) hx hb dX1_digestOfDays_7 rfl ?_
    refine kz_icmp_ge (tgt := 60) hx hb (by first | omega | (have := ofD_rng hOK hk_ja ((jb : Nat) : Int); omega)) (by first | omega | (have := ofD_rng hOK hk_ja ((jb : Nat) : Int); omega)) dX1_digestOfDays_8 (by decide) (fun c_2 => absurd c_2 (by omega)) (fun c_2 => ?_)
    refine lv_iconst (v := iZ 0) hx hb dX1_digestOfDays_11 rfl ?_
    refine lv_istore (lv' := [(6, .int (iZ 0)), (3, .long (lZ (dDs σ dd ja))), (5, .int (iZ ((ja : Nat) : Int))), (0, .ref (q 0)), (1, .long (lZ (dd)))]) hx hb dX1_digestOfDays_12 hl (by decide) rfl (fun ls hl => ?_)
    refine k_loop4 (W := fun (jb : Nat) (H : Heap) (locs : List Loc) (ls : Array Slot) => W p l e _ s m _ below meth c H locs (0 + 12 * ja + 2 * jb) (0 + 72 * ja + 12 * jb) _ (F0 m 14 ls [])) (fun (jb : Nat) (H : Heap) (locs : List Loc) (ls : Array Slot) => lv_has ls 7 [(3, .long (lZ (dDi σ (dDs σ dd ja) ja jb))), (6, .int (iZ ((jb : Nat) : Int))), (5, .int (iZ ((ja : Nat) : Int))), (0, .ref (q 0)), (1, .long (lZ (dd)))] ∧ gX dC dI dA q σ H ∧ va_S (kA q s.heap.size) s.heap H locs) 6 (fun H locs ls hI => ?_) (fun jb H locs ls hk_jb hI ih_jb => ?_) _ _ _ ⟨by have h9 := lv_sub hl [1, 0, 2, 3, 4] rfl; exact h9, hG, hS⟩
    · obtain ⟨hl, hG, hS⟩ := hI
      obtain ⟨tb, tn, tm, htn, hfit, htm, hP⟩ := id hG
      refine lv_iload hx hb dX1_digestOfDays_14 (lv_at hl 1 rfl) ?_
      refine lv_iconst (v := iZ 5) hx hb dX1_digestOfDays_16 rfl ?_
      refine kz_icmp_gt (tgt := 42) hx hb (by first | omega | (have := ofD_rng hOK hk_ja ((jb : Nat) : Int); omega)) (by first | omega | (have := ofD_rng hOK hk_ja ((jb : Nat) : Int); omega)) dX1_digestOfDays_17 (by decide) (fun c_3 => ?_) (fun c_3 => absurd c_3 (by omega))
      refine lv_aload_n hx hb dX1_digestOfDays_42 rfl (lv_at hl 3 rfl) ?_
      refine lv_lload_n hx hb dX1_digestOfDays_43 rfl (lv_at hl 0 rfl) ?_
      refine lv_aload_n hx hb dX1_digestOfDays_44 rfl (lv_at hl 3 rfl) ?_
      refine lv_iload hx hb dX1_digestOfDays_45 (lv_at hl 2 rfl) ?_
      refine kc0 (fun _ q => q) (va_runV (As := [.int (iZ ((ja : Nat) : Int))]) (rest := [.long (lZ (dDi σ (dDs σ dd ja) ja 6)), .ref (q 0)]) ⟨hx, hb, hml, hown, hts⟩ (c_X1_dayNumberAt l dC dI dA k q (σ) _ ⟨tb, tn, tm, htn, hfit, htm, hP⟩ (hOK) ja (by first | exact hk_ja | omega)) (cwV 1 hts (kg_V mw563 mw564 mw14 mw42 rfl mw565) rfl rfl rfl hdV_X1_dayNumberAt ⟨Nat.le_of_ble_eq_true rfl, Nat.le_of_ble_eq_true rfl⟩) ⟨fun a U g mk q => ⟨q.1, q.2.1, kM_call q.2.2⟩, va_recv hM.1 hP (ci := 4) (q0 := 0) rfl rfl, fun U hU hW => ⟨rfl, hU, kM_kept hM hS hAN hU hW⟩⟩ rfl rfl hl.1 rfl (lv_room (Nat.le_of_ble_eq_true rfl)) dX1_digestOfDays_47 ⟨show (0 + 12 * ja + 2 * 6 : Nat) + 0 ≤ 48 from by omega, show (0 + 72 * ja + 12 * 6 : Nat) + 0 ≤ 288 from by omega⟩) ?_
      refine kc2 (va_runV (As := [.long (lZ (dDi σ (dDs σ dd ja) ja 6)), .long (lZ (dnum (σ 5 ja) (σ 6 ja) (σ 7 ja)))]) (rest := []) ⟨hx, hb, hml, hown, hts⟩ (c_X1_withText l dC dI dA k q σ _ hG hOK hq ((dDi σ (dDs σ dd ja) ja 6)) ((dnum (σ 5 ja) (σ 6 ja) (σ 7 ja))) (dnum_13 hOK hk_ja)) (cwV 2 hts (kg_V mw238 mw239 mw7 mw42 rfl mw240) rfl rfl rfl hdV_X1_withText ⟨Nat.le_of_ble_eq_true rfl, Nat.le_of_ble_eq_true rfl⟩) ⟨fun a U g mk q => ⟨q.1, q.2.1, kMJ_call q.2.2⟩, va_recv hMJ.1.1 hP (ci := 4) (q0 := 0) rfl rfl, fun U hU hW => ⟨rfl, hU, kMJ_kept hMJ hS hAN hU hW⟩⟩ rfl rfl hl.1 rfl (lv_room (Nat.le_of_ble_eq_true rfl)) dX1_digestOfDays_50 ⟨show (0 + 12 * ja + 2 * 6 : Nat) + 0 ≤ 48 from by omega, show (0 + 72 * ja + 12 * 6 : Nat) + 0 ≤ 288 from by omega⟩) hS (fun a _ h => kA_up hS.1 a h) (fun a h => kA_up hS.1 a h) (fun H locs hG hy9 hk9 hS => ?_)
      obtain ⟨tb, tn, tm, htn, hfit, htm, hP⟩ := id hG
      clear hy9 hk9
      refine lv_lstore_n (lv' := [(3, .long (lZ (wtx ((dDi σ (dDs σ dd ja) ja 6)) ((dnum (σ 5 ja) (σ 6 ja) (σ 7 ja)))))), (6, .int (iZ (((6 : Nat) : Int)))), (5, .int (iZ ((ja : Nat) : Int))), (0, .ref (q 0)), (1, .long (lZ (dd)))]) hx hb dX1_digestOfDays_53 rfl hl (by decide) rfl (fun ls hl => ?_)
      refine lv_iinc (v := iZ (((ja : Nat) : Int) + 1)) (lv' := [(5, .int (iZ (((ja : Nat) : Int) + 1))), (3, .long (lZ (wtx ((dDi σ (dDs σ dd ja) ja 6)) ((dnum (σ 5 ja) (σ 6 ja) (σ 7 ja)))))), (6, .int (iZ (((6 : Nat) : Int)))), (0, .ref (q 0)), (1, .long (lZ (dd)))]) hx hb dX1_digestOfDays_54 hl (k := 2) rfl (iZ_add _ _) (by decide) rfl (fun ls hl => ?_)
      refine lv_goto (tgt := 5) hx hb dX1_digestOfDays_57 (by decide) ?_
      refine W.widen (k := 0 + 12 * (ja + 1)) (n := 0 + 72 * (ja + 1)) (show (0 + 12 * ja + 2 * 6 : Nat) ≤ 0 + 12 * (ja + 1) from by omega) (show (0 + 72 * ja + 12 * 6 : Nat) ≤ 0 + 72 * (ja + 1) from by omega) ?_
      exact ih_ja _ _ ls ⟨by have h9 := lv_sub hl [1, 0, 3, 4] rfl; rw [show wtx (dDi σ (dDs σ dd ja) ja 6) (dnum (σ 5 ja) (σ 6 ja) (σ 7 ja)) = dDs σ dd (ja + 1) from rfl, show ((ja : Nat) : Int) + 1 = ((ja + 1 : Nat) : Int) from by omega] at h9; exact h9, hG, hS⟩
    · obtain ⟨hl, hG, hS⟩ := hI
      obtain ⟨tb, tn, tm, htn, hfit, htm, hP⟩ := id hG
      refine lv_iload hx hb dX1_digestOfDays_14 (lv_at hl 1 rfl) ?_
      refine lv_iconst (v := iZ 5) hx hb dX1_digestOfDays_16 rfl ?_
      refine kz_icmp_gt (tgt := 42) hx hb (by first | omega | (have := ofD_rng hOK hk_ja ((jb : Nat) : Int); omega)) (by first | omega | (have := ofD_rng hOK hk_ja ((jb : Nat) : Int); omega)) dX1_digestOfDays_17 (by decide) (fun c_4 => absurd c_4 (by omega)) (fun c_4 => ?_)
      refine lv_lload_n hx hb dX1_digestOfDays_20 rfl (lv_at hl 0 rfl) ?_
      refine lv_ldc2 (v := lZ 31) hx hb hown (hts _ (List.mem_cons_of_mem _ mw219)) dX1_digestOfDays_21 ?_
      refine kz_lmul hx hb dX1_digestOfDays_24 ?_
      refine lv_aload_n hx hb dX1_digestOfDays_25 rfl (lv_at hl 3 rfl) ?_
      refine lv_iload hx hb dX1_digestOfDays_26 (lv_at hl 2 rfl) ?_
      refine lv_iload hx hb dX1_digestOfDays_28 (lv_at hl 1 rfl) ?_
      refine kc2 (va_runV (As := [.int (iZ ((ja : Nat) : Int)), .int (iZ ((jb : Nat) : Int))]) (rest := [.long (lZ ((dDi σ (dDs σ dd ja) ja jb) * 31))]) ⟨hx, hb, hml, hown, hts⟩ (kMet_noX (c_X1_ofDay l hst dC dI dA k q σ _ hG hOK hq (((ja : Nat) : Int)) (((jb : Nat) : Int)) (by omega) (by omega)) (fun E h => by have e9 : ex2 (!inb (((ja : Nat) : Int)) 0 3) (!inb (((jb : Nat) : Int)) 0 5) = 0 := ex2_0 (by (simp only [inb, noThing_iff, noThing_niff, Bool.not_eq_true', Bool.not_eq_false', Bool.or_eq_true, Bool.or_eq_false_iff, decide_eq_true_eq, decide_eq_false_iff_not] <;> omega)) (by first | rfl | (simp only [inb, noThing_iff, noThing_niff, Bool.not_eq_true', Bool.not_eq_false', Bool.or_eq_true, Bool.or_eq_false_iff, decide_eq_true_eq, decide_eq_false_iff_not] <;> omega)); rcases h with h | h <;> (have h8 := h.1; omega))) (cwV 2 hts (kg_V mw545 mw546 mw547 mw42 rfl mw548) rfl rfl rfl hdV_X1_ofDay ⟨Nat.le_of_ble_eq_true rfl, Nat.le_of_ble_eq_true rfl⟩) ⟨fun a U g mk q => ⟨q.1, q.2.1, kM_call q.2.2⟩, va_recv hM.1 hP (ci := 4) (q0 := 0) rfl rfl, fun U hU hW => ⟨rfl, hU, kM_kept hM hS hAN hU hW⟩⟩ rfl rfl hl.1 rfl (lv_room (Nat.le_of_ble_eq_true rfl)) dX1_digestOfDays_30 ⟨show (0 + 12 * ja + 2 * jb : Nat) + 2 ≤ 48 from by omega, show (0 + 72 * ja + 12 * jb : Nat) + 12 ≤ 288 from by omega⟩) hS (fun a _ h => kA_up hS.1 a h) (fun a h => kA_up hS.1 a h) (fun H locs hG hy9 hk9 hS => ?_)
      obtain ⟨tb, tn, tm, htn, hfit, htm, hP⟩ := id hG
      clear hy9 hk9
      refine W.eq (g2 := F0 m 33 ls [.int (iZ (ofD σ ja (((jb : Nat) : Int)))), .long (lZ ((dDi σ (dDs σ dd ja) ja jb) * 31))]) rfl ?_
      refine kz_i2l hx hb (by first | omega | (have := ofD_rng hOK hk_ja ((jb : Nat) : Int); omega)) dX1_digestOfDays_33 ?_
      refine kz_ladd hx hb dX1_digestOfDays_34 ?_
      refine lv_lstore_n (lv' := [(3, .long (lZ (((dDi σ (dDs σ dd ja) ja jb) * 31) + ((ofD σ ja (((jb : Nat) : Int))))))), (6, .int (iZ ((jb : Nat) : Int))), (5, .int (iZ ((ja : Nat) : Int))), (0, .ref (q 0)), (1, .long (lZ (dd)))]) hx hb dX1_digestOfDays_35 rfl hl (by decide) rfl (fun ls hl => ?_)
      refine lv_iinc (v := iZ (((jb : Nat) : Int) + 1)) (lv' := [(6, .int (iZ (((jb : Nat) : Int) + 1))), (3, .long (lZ (((dDi σ (dDs σ dd ja) ja jb) * 31) + ((ofD σ ja (((jb : Nat) : Int))))))), (5, .int (iZ ((ja : Nat) : Int))), (0, .ref (q 0)), (1, .long (lZ (dd)))]) hx hb dX1_digestOfDays_36 hl (k := 1) rfl (iZ_add _ _) (by decide) rfl (fun ls hl => ?_)
      refine lv_goto (tgt := 14) hx hb dX1_digestOfDays_39 (by decide) ?_
      refine W.widen (k := 0 + 12 * ja + 2 * (jb + 1)) (n := 0 + 72 * ja + 12 * (jb + 1)) (show (0 + 12 * ja + 2 * jb + 2 : Nat) ≤ 0 + 12 * ja + 2 * (jb + 1) from by omega) (show (0 + 72 * ja + 12 * jb + 12 : Nat) ≤ 0 + 72 * ja + 12 * (jb + 1) from by omega) ?_
      exact ih_jb _ _ ls ⟨by have h9 := lv_sub hl [1, 0, 2, 3, 4] rfl; rw [show dDi σ (dDs σ dd ja) ja jb * 31 + ofD σ ja ((jb : Nat) : Int) = dDi σ (dDs σ dd ja) ja (jb + 1) from rfl, show ((jb : Nat) : Int) + 1 = ((jb + 1 : Nat) : Int) from by omega] at h9; exact h9, hG, hS⟩

abbrev ww_X1_digestOfWays : List Cond := .code yX1_digestOfWays cX1_digestOfWays 7 (some .long) :: gT
set_option maxHeartbeats 4000000 in
set_option maxRecDepth 100000 in
theorem c_X1_digestOfWays (l : Launch) (hst : l.stackTraces = false) (dC : Nat → ClassId) (dI : Nat → Nat → Nat) (dA : Nat → ClassId) (k : Nat → Nat) (q : Nat → Nat) (σ : Nat → Nat → Int) (H0 : Heap) (hG : gX dC dI dA q σ H0) (hOK : kOK σ) (hq : kQI q k) (dd : Int) : Met l yX1_digestOfWays ww_X1_digestOfWays ({ frames := 10, cells := 48, slots := 288, locals := 345 }) (va_Pc [.ref (q 0), .long (lZ (dd))] (fun U => U.heap = H0 ∧ kMJ dC dI dA k U)) (kQ2 (some (.long (lZ (dWs σ dd 4)))) (gX dC dI dA q σ) (kA q H0.size)) 48 288 (kA q H0.size) := by
  refine Met.ofW (cc := cX1_digestOfWays) (maxL := 7) (ret := (some .long)) (by decide) rfl ?_
  intro p e s m args below meth c s₁ B hml hv
  obtain ⟨rfl, hH, hMJ⟩ := hv
  subst hH
  obtain ⟨tb, tn, tm, htn, hfit, htm, hP⟩ := id hG
  have hM := hMJ.1
  have hAN : ∀ a, kA q s.heap.size a → k 0 ≤ a := kA_N hq hM.2.1.1
  have hne78 : q 7 ≠ q 8 := fun z => absurd (hq.1 7 8 (by decide) (by decide) z) (by decide)
  have hk7 := hq.2 7 (by decide)
  have hk8 := hq.2 8 (by decide)
  have hS : va_S (kA q s.heap.size) s.heap s.heap [] := va_S.rf
  have hx := B.exec
  have hb := B.bytes
  have hr9 := B.returns
  have hts := atoms_spec (ws := ww_X1_digestOfWays) B.pre
  have hown : s.vm.findClass RX1 = some m.cls := findClass_of_methodNamed B.named
  have hlocks := B.notSynchronized
  have hl := lv_entry ([.ref (q 0), .long (lZ (dd))]) (n := 7) (Nat.le_of_ble_eq_true rfl)
  rw [lg_entry_eq]
  generalize (lg_sl ([.ref (q 0), .long (lZ (dd))]) ++ List.replicate (7 - (lg_sl ([.ref (q 0), .long (lZ (dd))])).length) Slot.unset).toArray = ls at hl ⊢
  have hl : lv_has ls 7 [(0, .ref (q 0)), (1, .long (lZ (dd)))] := hl
  refine lv_lload_n hx hb dX1_digestOfWays_0 rfl (lv_at hl 1 rfl) ?_
  refine lv_lstore_n (lv' := [(3, .long (lZ (dd))), (0, .ref (q 0)), (1, .long (lZ (dd)))]) hx hb dX1_digestOfWays_1 rfl hl (by decide) rfl (fun ls hl => ?_)
  refine lv_iconst (v := iZ 0) hx hb dX1_digestOfWays_2 rfl ?_
  refine lv_istore (lv' := [(5, .int (iZ 0)), (3, .long (lZ (dd))), (0, .ref (q 0)), (1, .long (lZ (dd)))]) hx hb dX1_digestOfWays_3 hl (by decide) rfl (fun ls hl => ?_)
  refine k_loop4 (W := fun (ja : Nat) (H : Heap) (locs : List Loc) (ls : Array Slot) => W p l e _ s m _ below meth c H locs (0 + 12 * ja) (0 + 72 * ja) _ (F0 m 5 ls [])) (fun (ja : Nat) (H : Heap) (locs : List Loc) (ls : Array Slot) => lv_has ls 7 [(3, .long (lZ (dWs σ dd ja))), (5, .int (iZ ((ja : Nat) : Int))), (0, .ref (q 0)), (1, .long (lZ (dd)))] ∧ gX dC dI dA q σ H ∧ va_S (kA q s.heap.size) s.heap H locs) 4 (fun H locs ls hI => ?_) (fun ja H locs ls hk_ja hI ih_ja => ?_) _ _ _ ⟨by have h9 := lv_sub hl [1, 0, 2, 3] rfl; exact h9, hG, hS⟩
  · obtain ⟨hl, hG, hS⟩ := hI
    obtain ⟨tb, tn, tm, htn, hfit, htm, hP⟩ := id hG
    refine lv_iload hx hb dX1_digestOfWays_5 (lv_at hl 1 rfl) ?_
    refine lv_iconst (v := iZ 4) hx hb dX1_digestOfWays_7 rfl ?_
    refine kz_icmp_ge (tgt := 79) hx hb (by first | omega | (have := ordT_rng (cnt (σ 0 ja) (σ 1 ja)) (cnt (σ 0 jb) (σ 1 jb)) 0; omega)) (by first | omega | (have := ordT_rng (cnt (σ 0 ja) (σ 1 ja)) (cnt (σ 0 jb) (σ 1 jb)) 0; omega)) dX1_digestOfWays_8 (by decide) (fun c_1 => ?_) (fun c_1 => absurd c_1 (by omega))
    refine lv_lload_n hx hb dX1_digestOfWays_79 rfl (lv_at hl 0 rfl) ?_
    refine W.widen (k := 48) (n := 288) (show (0 + 12 * 4 : Nat) ≤ 48 from by omega) (show (0 + 72 * 4 : Nat) ≤ 288 from by omega) ?_
    exact W.lret (v := lZ (dWs σ dd 4)) hx hb hr9 (fun t ht hW => ⟨⟨congrArg (fun z : Int => Outcome.returned (some (Value.long (lZ z)))) (show (dWs σ dd 4) = dWs σ dd 4 from rfl), by rw [ht]; exact hG⟩, hS.F ht⟩) hS.2.2 dX1_digestOfWays_80
  · obtain ⟨hl, hG, hS⟩ := hI
    obtain ⟨tb, tn, tm, htn, hfit, htm, hP⟩ := id hG
    have o_ja := kOKr hOK hk_ja
    refine lv_iload hx hb dX1_digestOfWays_5 (lv_at hl 1 rfl) ?_
    refine lv_iconst (v := iZ 4) hx hb dX1_digestOfWays_7 rfl ?_
    refine kz_icmp_ge (tgt := 79) hx hb (by first | omega | (have := ordT_rng (cnt (σ 0 ja) (σ 1 ja)) (cnt (σ 0 jb) (σ 1 jb)) 0; omega)) (by first | omega | (have := ordT_rng (cnt (σ 0 ja) (σ 1 ja)) (cnt (σ 0 jb) (σ 1 jb)) 0; omega)) dX1_digestOfWays_8 (by decide) (fun c_2 => absurd c_2 (by omega)) (fun c_2 => ?_)
    refine lv_iconst (v := iZ 0) hx hb dX1_digestOfWays_11 rfl ?_
    refine lv_istore (lv' := [(6, .int (iZ 0)), (3, .long (lZ (dWs σ dd ja))), (5, .int (iZ ((ja : Nat) : Int))), (0, .ref (q 0)), (1, .long (lZ (dd)))]) hx hb dX1_digestOfWays_12 hl (by decide) rfl (fun ls hl => ?_)
    refine k_loop4 (W := fun (jb : Nat) (H : Heap) (locs : List Loc) (ls : Array Slot) => W p l e _ s m _ below meth c H locs (0 + 12 * ja + 3 * jb) (0 + 72 * ja + 18 * jb) _ (F0 m 14 ls [])) (fun (jb : Nat) (H : Heap) (locs : List Loc) (ls : Array Slot) => lv_has ls 7 [(3, .long (lZ (dWi σ (dWs σ dd ja) ja jb))), (6, .int (iZ ((jb : Nat) : Int))), (5, .int (iZ ((ja : Nat) : Int))), (0, .ref (q 0)), (1, .long (lZ (dd)))] ∧ gX dC dI dA q σ H ∧ va_S (kA q s.heap.size) s.heap H locs) 4 (fun H locs ls hI => ?_) (fun jb H locs ls hk_jb hI ih_jb => ?_) _ _ _ ⟨by have h9 := lv_sub hl [1, 0, 2, 3, 4] rfl; exact h9, hG, hS⟩
    · obtain ⟨hl, hG, hS⟩ := hI
      obtain ⟨tb, tn, tm, htn, hfit, htm, hP⟩ := id hG
      refine lv_iload hx hb dX1_digestOfWays_14 (lv_at hl 1 rfl) ?_
      refine lv_iconst (v := iZ 4) hx hb dX1_digestOfWays_16 rfl ?_
      refine kz_icmp_ge (tgt := 73) hx hb (by first | omega | (have := ordT_rng (cnt (σ 0 ja) (σ 1 ja)) (cnt (σ 0 jb) (σ 1 jb)) 0; omega)) (by first | omega | (have := ordT_rng (cnt (σ 0 ja) (σ 1 ja)) (cnt (σ 0 jb) (σ 1 jb)) 0; omega)) dX1_digestOfWays_17 (by decide) (fun c_3 => ?_) (fun c_3 => absurd c_3 (by omega))
      refine lv_iinc (v := iZ (((ja : Nat) : Int) + 1)) (lv' := [(5, .int (iZ (((ja : Nat) : Int) + 1))), (3, .long (lZ (dWi σ (dWs σ dd ja) ja 4))), (6, .int (iZ (((4 : Nat) : Int)))), (0, .ref (q 0)), (1, .long (lZ (dd)))]) hx hb dX1_digestOfWays_73 hl (k := 2) rfl (iZ_add _ _) (by decide) rfl (fun ls hl => ?_)
      refine lv_goto (tgt := 5) hx hb dX1_digestOfWays_76 (by decide) ?_
      refine W.widen (k := 0 + 12 * (ja + 1)) (n := 0 + 72 * (ja + 1)) (show (0 + 12 * ja + 3 * 4 : Nat) ≤ 0 + 12 * (ja + 1) from by omega) (show (0 + 72 * ja + 18 * 4 : Nat) ≤ 0 + 72 * (ja + 1) from by omega) ?_
      exact ih_ja _ _ ls ⟨by have h9 := lv_sub hl [1, 0, 3, 4] rfl; rw [show dWi σ (dWs σ dd ja) ja 4 = dWs σ dd (ja + 1) from rfl, show ((ja : Nat) : Int) + 1 = ((ja + 1 : Nat) : Int) from by omega] at h9; exact h9, hG, hS⟩
    · obtain ⟨hl, hG, hS⟩ := hI
      obtain ⟨tb, tn, tm, htn, hfit, htm, hP⟩ := id hG
      refine lv_iload hx hb dX1_digestOfWays_14 (lv_at hl 1 rfl) ?_
      refine lv_iconst (v := iZ 4) hx hb dX1_digestOfWays_16 rfl ?_
      refine kz_icmp_ge (tgt := 73) hx hb (by first | omega | (have := ordT_rng (cnt (σ 0 ja) (σ 1 ja)) (cnt (σ 0 jb) (σ 1 jb)) 0; omega)) (by first | omega | (have := ordT_rng (cnt (σ 0 ja) (σ 1 ja)) (cnt (σ 0 jb) (σ 1 jb)) 0; omega)) dX1_digestOfWays_17 (by decide) (fun c_4 => absurd c_4 (by omega)) (fun c_4 => ?_)
      refine lv_lload_n hx hb dX1_digestOfWays_20 rfl (lv_at hl 0 rfl) ?_
      refine lv_ldc2 (v := lZ 31) hx hb hown (hts _ (List.mem_cons_of_mem _ mw219)) dX1_digestOfWays_21 ?_
      refine kz_lmul hx hb dX1_digestOfWays_24 ?_
      refine lv_aload_n hx hb dX1_digestOfWays_25 rfl (lv_at hl 3 rfl) ?_
      refine lv_iload hx hb dX1_digestOfWays_26 (lv_at hl 2 rfl) ?_
      refine lv_iload hx hb dX1_digestOfWays_28 (lv_at hl 1 rfl) ?_
      refine lv_iconst (v := iZ 0) hx hb dX1_digestOfWays_30 rfl ?_
      refine kc2 (va_runV (As := [.int (iZ ((ja : Nat) : Int)), .int (iZ ((jb : Nat) : Int)), .int (iZ 0)]) (rest := [.long (lZ ((dWi σ (dWs σ dd ja) ja jb) * 31))]) ⟨hx, hb, hml, hown, hts⟩ (kMet_noX (c_X1_leafOrder l hst dC dI dA k q σ _ hG hOK hq (((ja : Nat) : Int)) (((jb : Nat) : Int)) (0) (by omega) (by omega) (by omega)) (fun E h => by have e9 : ex2 (!inb (((ja : Nat) : Int)) 0 3 || !inb (((jb : Nat) : Int)) 0 3) (!inb (0) 0 2) = 0 := ex2_0 (by (simp only [inb, noThing_iff, noThing_niff, Bool.not_eq_true', Bool.not_eq_false', Bool.or_eq_true, Bool.or_eq_false_iff, decide_eq_true_eq, decide_eq_false_iff_not] <;> omega)) (by first | rfl | (simp only [inb, noThing_iff, noThing_niff, Bool.not_eq_true', Bool.not_eq_false', Bool.or_eq_true, Bool.or_eq_false_iff, decide_eq_true_eq, decide_eq_false_iff_not] <;> omega)); rcases h with h | h <;> (have h8 := h.1; omega))) (cwV 3 hts (kg_V mw569 mw570 mw571 mw42 rfl mw572) rfl rfl rfl hdV_X1_leafOrder ⟨Nat.le_of_ble_eq_true rfl, Nat.le_of_ble_eq_true rfl⟩) ⟨fun a U g mk q => ⟨q.1, q.2.1, kM_call q.2.2⟩, va_recv hM.1 hP (ci := 4) (q0 := 0) rfl rfl, fun U hU hW => ⟨rfl, hU, kM_kept hM hS hAN hU hW⟩⟩ rfl rfl hl.1 rfl (lv_room (Nat.le_of_ble_eq_true rfl)) dX1_digestOfWays_31 ⟨show (0 + 12 * ja + 3 * jb : Nat) + 3 ≤ 48 from by omega, show (0 + 72 * ja + 18 * jb : Nat) + 18 ≤ 288 from by omega⟩) hS (fun a _ h => kA_up hS.1 a h) (fun a h => kA_up hS.1 a h) (fun H locs hG hy9 hk9 hS => ?_)
      obtain ⟨tb, tn, tm, htn, hfit, htm, hP⟩ := id hG
      clear hy9 hk9
      refine W.eq (g2 := F0 m 34 ls [.int (iZ (ordT (cnt (σ 0 ja) (σ 1 ja)) (cnt (σ 0 jb) (σ 1 jb)) 0)), .long (lZ ((dWi σ (dWs σ dd ja) ja jb) * 31))]) rfl ?_
      refine kz_i2l hx hb (by first | omega | (have := ordT_rng (cnt (σ 0 ja) (σ 1 ja)) (cnt (σ 0 jb) (σ 1 jb)) 0; omega)) dX1_digestOfWays_34 ?_
      refine kz_ladd hx hb dX1_digestOfWays_35 ?_
      refine lv_lstore_n (lv' := [(3, .long (lZ (((dWi σ (dWs σ dd ja) ja jb) * 31) + ((ordT (cnt (σ 0 ja) (σ 1 ja)) (cnt (σ 0 jb) (σ 1 jb)) 0))))), (6, .int (iZ ((jb : Nat) : Int))), (5, .int (iZ ((ja : Nat) : Int))), (0, .ref (q 0)), (1, .long (lZ (dd)))]) hx hb dX1_digestOfWays_36 rfl hl (by decide) rfl (fun ls hl => ?_)
      refine lv_aload_n hx hb dX1_digestOfWays_37 rfl (lv_at hl 3 rfl) ?_
      refine lv_lload_n hx hb dX1_digestOfWays_38 rfl (lv_at hl 0 rfl) ?_
      refine lv_aload_n hx hb dX1_digestOfWays_39 rfl (lv_at hl 3 rfl) ?_
      refine lv_iload hx hb dX1_digestOfWays_40 (lv_at hl 2 rfl) ?_
      refine lv_iload hx hb dX1_digestOfWays_42 (lv_at hl 1 rfl) ?_
      refine lv_iconst (v := iZ 0) hx hb dX1_digestOfWays_44 rfl ?_
      refine kc0 (fun _ q => q) (va_runV (As := [.int (iZ ((ja : Nat) : Int)), .int (iZ ((jb : Nat) : Int)), .int (iZ 0)]) (rest := [.long (lZ (((dWi σ (dWs σ dd ja) ja jb) * 31) + ((ordT (cnt (σ 0 ja) (σ 1 ja)) (cnt (σ 0 jb) (σ 1 jb)) 0)))), .ref (q 0)]) ⟨hx, hb, hml, hown, hts⟩ (c_X1_unitsToLeaf l dC dI dA k q (σ) _ ⟨tb, tn, tm, htn, hfit, htm, hP⟩ (hOK) ja jb (0) (by first | exact hk_ja | exact hk_jb | omega) (by first | exact hk_ja | exact hk_jb | omega) (by first | exact hk_ja | exact hk_jb | omega)) (cwV 3 hts (kg_V mw573 mw574 mw16 mw42 rfl mw575) rfl rfl rfl hdV_X1_unitsToLeaf ⟨Nat.le_of_ble_eq_true rfl, Nat.le_of_ble_eq_true rfl⟩) ⟨fun a U g mk q => ⟨q.1, q.2.1, kM_call q.2.2⟩, va_recv hM.1 hP (ci := 4) (q0 := 0) rfl rfl, fun U hU hW => ⟨rfl, hU, kM_kept hM hS hAN hU hW⟩⟩ rfl rfl hl.1 rfl (lv_room (Nat.le_of_ble_eq_true rfl)) dX1_digestOfWays_45 ⟨show (0 + 12 * ja + 3 * jb + 3 : Nat) + 0 ≤ 48 from by omega, show (0 + 72 * ja + 18 * jb + 18 : Nat) + 0 ≤ 288 from by omega⟩) ?_
      refine kc2 (va_runV (As := [.long (lZ (((dWi σ (dWs σ dd ja) ja jb) * 31) + ((ordT (cnt (σ 0 ja) (σ 1 ja)) (cnt (σ 0 jb) (σ 1 jb)) 0)))), .long (lZ (tq (cnt (σ 0 jb) (σ 1 jb) - cnt (σ 0 ja) (σ 1 ja)) (usize ((0)))))]) (rest := []) ⟨hx, hb, hml, hown, hts⟩ (c_X1_withText l dC dI dA k q σ _ hG hOK hq ((((dWi σ (dWs σ dd ja) ja jb) * 31) + ((ordT (cnt (σ 0 ja) (σ 1 ja)) (cnt (σ 0 jb) (σ 1 jb)) 0)))) ((tq (cnt (σ 0 jb) (σ 1 jb) - cnt (σ 0 ja) (σ 1 ja)) (usize ((0))))) (wyz_13 hOK hk_ja hk_jb _)) (cwV 2 hts (kg_V mw238 mw239 mw7 mw42 rfl mw240) rfl rfl rfl hdV_X1_withText ⟨Nat.le_of_ble_eq_true rfl, Nat.le_of_ble_eq_true rfl⟩) ⟨fun a U g mk q => ⟨q.1, q.2.1, kMJ_call q.2.2⟩, va_recv hMJ.1.1 hP (ci := 4) (q0 := 0) rfl rfl, fun U hU hW => ⟨rfl, hU, kMJ_kept hMJ hS hAN hU hW⟩⟩ rfl rfl hl.1 rfl (lv_room (Nat.le_of_ble_eq_true rfl)) dX1_digestOfWays_48 ⟨show (0 + 12 * ja + 3 * jb + 3 : Nat) + 0 ≤ 48 from by omega, show (0 + 72 * ja + 18 * jb + 18 : Nat) + 0 ≤ 288 from by omega⟩) hS (fun a _ h => kA_up hS.1 a h) (fun a h => kA_up hS.1 a h) (fun H locs hG hy9 hk9 hS => ?_)
      obtain ⟨tb, tn, tm, htn, hfit, htm, hP⟩ := id hG
      clear hy9 hk9
      refine lv_lstore_n (lv' := [(3, .long (lZ (wtx ((((dWi σ (dWs σ dd ja) ja jb) * 31) + ((ordT (cnt (σ 0 ja) (σ 1 ja)) (cnt (σ 0 jb) (σ 1 jb)) 0)))) ((tq (cnt (σ 0 jb) (σ 1 jb) - cnt (σ 0 ja) (σ 1 ja)) (usize ((0)))))))), (6, .int (iZ ((jb : Nat) : Int))), (5, .int (iZ ((ja : Nat) : Int))), (0, .ref (q 0)), (1, .long (lZ (dd)))]) hx hb dX1_digestOfWays_51 rfl hl (by decide) rfl (fun ls hl => ?_)
      refine lv_aload_n hx hb dX1_digestOfWays_52 rfl (lv_at hl 3 rfl) ?_
      refine lv_lload_n hx hb dX1_digestOfWays_53 rfl (lv_at hl 0 rfl) ?_
      refine lv_aload_n hx hb dX1_digestOfWays_54 rfl (lv_at hl 3 rfl) ?_
      refine lv_iload hx hb dX1_digestOfWays_55 (lv_at hl 2 rfl) ?_
      refine lv_iload hx hb dX1_digestOfWays_57 (lv_at hl 1 rfl) ?_
      refine lv_iconst (v := iZ 1) hx hb dX1_digestOfWays_59 rfl ?_
      refine kc0 (fun _ q => q) (va_runV (As := [.int (iZ ((ja : Nat) : Int)), .int (iZ ((jb : Nat) : Int)), .int (iZ 1)]) (rest := [.long (lZ (wtx ((((dWi σ (dWs σ dd ja) ja jb) * 31) + ((ordT (cnt (σ 0 ja) (σ 1 ja)) (cnt (σ 0 jb) (σ 1 jb)) 0)))) ((tq (cnt (σ 0 jb) (σ 1 jb) - cnt (σ 0 ja) (σ 1 ja)) (usize ((0))))))), .ref (q 0)]) ⟨hx, hb, hml, hown, hts⟩ (c_X1_unitsToLeaf l dC dI dA k q (σ) _ ⟨tb, tn, tm, htn, hfit, htm, hP⟩ (hOK) ja jb (1) (by first | exact hk_ja | exact hk_jb | omega) (by first | exact hk_ja | exact hk_jb | omega) (by first | exact hk_ja | exact hk_jb | omega)) (cwV 3 hts (kg_V mw573 mw574 mw16 mw42 rfl mw575) rfl rfl rfl hdV_X1_unitsToLeaf ⟨Nat.le_of_ble_eq_true rfl, Nat.le_of_ble_eq_true rfl⟩) ⟨fun a U g mk q => ⟨q.1, q.2.1, kM_call q.2.2⟩, va_recv hM.1 hP (ci := 4) (q0 := 0) rfl rfl, fun U hU hW => ⟨rfl, hU, kM_kept hM hS hAN hU hW⟩⟩ rfl rfl hl.1 rfl (lv_room (Nat.le_of_ble_eq_true rfl)) dX1_digestOfWays_60 ⟨show (0 + 12 * ja + 3 * jb + 3 : Nat) + 0 ≤ 48 from by omega, show (0 + 72 * ja + 18 * jb + 18 : Nat) + 0 ≤ 288 from by omega⟩) ?_
      refine kc2 (va_runV (As := [.long (lZ (wtx ((((dWi σ (dWs σ dd ja) ja jb) * 31) + ((ordT (cnt (σ 0 ja) (σ 1 ja)) (cnt (σ 0 jb) (σ 1 jb)) 0)))) ((tq (cnt (σ 0 jb) (σ 1 jb) - cnt (σ 0 ja) (σ 1 ja)) (usize ((0))))))), .long (lZ (tq (cnt (σ 0 jb) (σ 1 jb) - cnt (σ 0 ja) (σ 1 ja)) (usize ((1)))))]) (rest := []) ⟨hx, hb, hml, hown, hts⟩ (c_X1_withText l dC dI dA k q σ _ hG hOK hq ((wtx ((((dWi σ (dWs σ dd ja) ja jb) * 31) + ((ordT (cnt (σ 0 ja) (σ 1 ja)) (cnt (σ 0 jb) (σ 1 jb)) 0)))) ((tq (cnt (σ 0 jb) (σ 1 jb) - cnt (σ 0 ja) (σ 1 ja)) (usize ((0))))))) ((tq (cnt (σ 0 jb) (σ 1 jb) - cnt (σ 0 ja) (σ 1 ja)) (usize ((1))))) (wyz_13 hOK hk_ja hk_jb _)) (cwV 2 hts (kg_V mw238 mw239 mw7 mw42 rfl mw240) rfl rfl rfl hdV_X1_withText ⟨Nat.le_of_ble_eq_true rfl, Nat.le_of_ble_eq_true rfl⟩) ⟨fun a U g mk q => ⟨q.1, q.2.1, kMJ_call q.2.2⟩, va_recv hMJ.1.1 hP (ci := 4) (q0 := 0) rfl rfl, fun U hU hW => ⟨rfl, hU, kMJ_kept hMJ hS hAN hU hW⟩⟩ rfl rfl hl.1 rfl (lv_room (Nat.le_of_ble_eq_true rfl)) dX1_digestOfWays_63 ⟨show (0 + 12 * ja + 3 * jb + 3 : Nat) + 0 ≤ 48 from by omega, show (0 + 72 * ja + 18 * jb + 18 : Nat) + 0 ≤ 288 from by omega⟩) hS (fun a _ h => kA_up hS.1 a h) (fun a h => kA_up hS.1 a h) (fun H locs hG hy9 hk9 hS => ?_)
      obtain ⟨tb, tn, tm, htn, hfit, htm, hP⟩ := id hG
      clear hy9 hk9
      refine lv_lstore_n (lv' := [(3, .long (lZ (wtx ((wtx ((((dWi σ (dWs σ dd ja) ja jb) * 31) + ((ordT (cnt (σ 0 ja) (σ 1 ja)) (cnt (σ 0 jb) (σ 1 jb)) 0)))) ((tq (cnt (σ 0 jb) (σ 1 jb) - cnt (σ 0 ja) (σ 1 ja)) (usize ((0))))))) ((tq (cnt (σ 0 jb) (σ 1 jb) - cnt (σ 0 ja) (σ 1 ja)) (usize ((1)))))))), (6, .int (iZ ((jb : Nat) : Int))), (5, .int (iZ ((ja : Nat) : Int))), (0, .ref (q 0)), (1, .long (lZ (dd)))]) hx hb dX1_digestOfWays_66 rfl hl (by decide) rfl (fun ls hl => ?_)
      refine lv_iinc (v := iZ (((jb : Nat) : Int) + 1)) (lv' := [(6, .int (iZ (((jb : Nat) : Int) + 1))), (3, .long (lZ (wtx ((wtx ((((dWi σ (dWs σ dd ja) ja jb) * 31) + ((ordT (cnt (σ 0 ja) (σ 1 ja)) (cnt (σ 0 jb) (σ 1 jb)) 0)))) ((tq (cnt (σ 0 jb) (σ 1 jb) - cnt (σ 0 ja) (σ 1 ja)) (usize ((0))))))) ((tq (cnt (σ 0 jb) (σ 1 jb) - cnt (σ 0 ja) (σ 1 ja)) (usize ((1)))))))), (5, .int (iZ ((ja : Nat) : Int))), (0, .ref (q 0)), (1, .long (lZ (dd)))]) hx hb dX1_digestOfWays_67 hl (k := 1) rfl (iZ_add _ _) (by decide) rfl (fun ls hl => ?_)
      refine lv_goto (tgt := 14) hx hb dX1_digestOfWays_70 (by decide) ?_
      refine W.widen (k := 0 + 12 * ja + 3 * (jb + 1)) (n := 0 + 72 * ja + 18 * (jb + 1)) (show (0 + 12 * ja + 3 * jb + 3 : Nat) ≤ 0 + 12 * ja + 3 * (jb + 1) from by omega) (show (0 + 72 * ja + 18 * jb + 18 : Nat) ≤ 0 + 72 * ja + 18 * (jb + 1) from by omega) ?_
      exact ih_jb _ _ ls ⟨by have h9 := lv_sub hl [1, 0, 2, 3, 4] rfl; rw [show wtx (wtx (dWi σ (dWs σ dd ja) ja jb * 31 + ordT (cnt (σ 0 ja) (σ 1 ja)) (cnt (σ 0 jb) (σ 1 jb)) 0) (tq (cnt (σ 0 jb) (σ 1 jb) - cnt (σ 0 ja) (σ 1 ja)) (usize 0))) (tq (cnt (σ 0 jb) (σ 1 jb) - cnt (σ 0 ja) (σ 1 ja)) (usize 1)) = dWi σ (dWs σ dd ja) ja (jb + 1) from rfl, show ((jb : Nat) : Int) + 1 = ((jb + 1 : Nat) : Int) from by omega] at h9; exact h9, hG, hS⟩

abbrev ww_X1_digestOfFeastsInYears : List Cond := .code yX1_digestOfFeastsInYears cX1_digestOfFeastsInYears 7 (some .long) :: gT
set_option maxHeartbeats 4000000 in
set_option maxRecDepth 100000 in
theorem c_X1_digestOfFeastsInYears (l : Launch) (hst : l.stackTraces = false) (dC : Nat → ClassId) (dI : Nat → Nat → Nat) (dA : Nat → ClassId) (k : Nat → Nat) (q : Nat → Nat) (σ : Nat → Nat → Int) (H0 : Heap) (hG : gX dC dI dA q σ H0) (hOK : kOK σ) (hq : kQI q k) (dd : Int) : Met l yX1_digestOfFeastsInYears ww_X1_digestOfFeastsInYears ({ frames := 2, cells := 0, slots := 0, locals := 43 }) (va_Pc [.ref (q 0), .long (lZ (dd))] (fun U => U.heap = H0 ∧ kMJ dC dI dA k U)) (kQ2 (some (.long (lZ (dEs σ dd 4)))) (gX dC dI dA q σ) (kA q H0.size)) 0 0 (kA q H0.size) := by
  refine Met.ofW (cc := cX1_digestOfFeastsInYears) (maxL := 7) (ret := (some .long)) (by decide) rfl ?_
  intro p e s m args below meth c s₁ B hml hv
  obtain ⟨rfl, hH, hMJ⟩ := hv
  subst hH
  obtain ⟨tb, tn, tm, htn, hfit, htm, hP⟩ := id hG
  have hM := hMJ.1
  have hAN : ∀ a, kA q s.heap.size a → k 0 ≤ a := kA_N hq hM.2.1.1
  have hne78 : q 7 ≠ q 8 := fun z => absurd (hq.1 7 8 (by decide) (by decide) z) (by decide)
  have hk7 := hq.2 7 (by decide)
  have hk8 := hq.2 8 (by decide)
  have hS : va_S (kA q s.heap.size) s.heap s.heap [] := va_S.rf
  have hx := B.exec
  have hb := B.bytes
  have hr9 := B.returns
  have hts := atoms_spec (ws := ww_X1_digestOfFeastsInYears) B.pre
  have hown : s.vm.findClass RX1 = some m.cls := findClass_of_methodNamed B.named
  have hlocks := B.notSynchronized
  have hl := lv_entry ([.ref (q 0), .long (lZ (dd))]) (n := 7) (Nat.le_of_ble_eq_true rfl)
  rw [lg_entry_eq]
  generalize (lg_sl ([.ref (q 0), .long (lZ (dd))]) ++ List.replicate (7 - (lg_sl ([.ref (q 0), .long (lZ (dd))])).length) Slot.unset).toArray = ls at hl ⊢
  have hl : lv_has ls 7 [(0, .ref (q 0)), (1, .long (lZ (dd)))] := hl
  refine lv_lload_n hx hb dX1_digestOfFeastsInYears_0 rfl (lv_at hl 1 rfl) ?_
  refine lv_lstore_n (lv' := [(3, .long (lZ (dd))), (0, .ref (q 0)), (1, .long (lZ (dd)))]) hx hb dX1_digestOfFeastsInYears_1 rfl hl (by decide) rfl (fun ls hl => ?_)
  refine lv_iconst (v := iZ 0) hx hb dX1_digestOfFeastsInYears_2 rfl ?_
  refine lv_istore (lv' := [(5, .int (iZ 0)), (3, .long (lZ (dd))), (0, .ref (q 0)), (1, .long (lZ (dd)))]) hx hb dX1_digestOfFeastsInYears_3 hl (by decide) rfl (fun ls hl => ?_)
  refine k_loop4 (W := fun (ja : Nat) (H : Heap) (locs : List Loc) (ls : Array Slot) => W p l e _ s m _ below meth c H locs (0 + 0 * ja) (0 + 0 * ja) _ (F0 m 5 ls [])) (fun (ja : Nat) (H : Heap) (locs : List Loc) (ls : Array Slot) => lv_has ls 7 [(3, .long (lZ (dEs σ dd ja))), (5, .int (iZ ((ja : Nat) : Int))), (0, .ref (q 0)), (1, .long (lZ (dd)))] ∧ gX dC dI dA q σ H ∧ va_S (kA q s.heap.size) s.heap H locs) 4 (fun H locs ls hI => ?_) (fun ja H locs ls hk_ja hI ih_ja => ?_) _ _ _ ⟨by have h9 := lv_sub hl [1, 0, 2, 3] rfl; exact h9, hG, hS⟩
  · obtain ⟨hl, hG, hS⟩ := hI
    obtain ⟨tb, tn, tm, htn, hfit, htm, hP⟩ := id hG
    refine lv_iload hx hb dX1_digestOfFeastsInYears_5 (lv_at hl 1 rfl) ?_
    refine lv_iconst (v := iZ 4) hx hb dX1_digestOfFeastsInYears_7 rfl ?_
    refine kz_icmp_ge (tgt := 56) hx hb (by first | omega | (have := bZ_rng (inYr σ jb (σ 2 ja)); omega)) (by first | omega | (have := bZ_rng (inYr σ jb (σ 2 ja)); omega)) dX1_digestOfFeastsInYears_8 (by decide) (fun c_1 => ?_) (fun c_1 => absurd c_1 (by omega))
    refine lv_lload_n hx hb dX1_digestOfFeastsInYears_56 rfl (lv_at hl 0 rfl) ?_
    refine W.widen (k := 0) (n := 0) (show (0 + 0 * 4 : Nat) ≤ 0 from by omega) (show (0 + 0 * 4 : Nat) ≤ 0 from by omega) ?_
    exact W.lret (v := lZ (dEs σ dd 4)) hx hb hr9 (fun t ht hW => ⟨⟨congrArg (fun z : Int => Outcome.returned (some (Value.long (lZ z)))) (show (dEs σ dd 4) = dEs σ dd 4 from rfl), by rw [ht]; exact hG⟩, hS.F ht⟩) hS.2.2 dX1_digestOfFeastsInYears_57
  · obtain ⟨hl, hG, hS⟩ := hI
    obtain ⟨tb, tn, tm, htn, hfit, htm, hP⟩ := id hG
    have o_ja := kOKr hOK hk_ja
    refine lv_iload hx hb dX1_digestOfFeastsInYears_5 (lv_at hl 1 rfl) ?_
    refine lv_iconst (v := iZ 4) hx hb dX1_digestOfFeastsInYears_7 rfl ?_
    refine kz_icmp_ge (tgt := 56) hx hb (by first | omega | (have := bZ_rng (inYr σ jb (σ 2 ja)); omega)) (by first | omega | (have := bZ_rng (inYr σ jb (σ 2 ja)); omega)) dX1_digestOfFeastsInYears_8 (by decide) (fun c_2 => absurd c_2 (by omega)) (fun c_2 => ?_)
    refine lv_iconst (v := iZ 0) hx hb dX1_digestOfFeastsInYears_11 rfl ?_
    refine lv_istore (lv' := [(6, .int (iZ 0)), (3, .long (lZ (dEs σ dd ja))), (5, .int (iZ ((ja : Nat) : Int))), (0, .ref (q 0)), (1, .long (lZ (dd)))]) hx hb dX1_digestOfFeastsInYears_12 hl (by decide) rfl (fun ls hl => ?_)
    refine k_loop4 (W := fun (jb : Nat) (H : Heap) (locs : List Loc) (ls : Array Slot) => W p l e _ s m _ below meth c H locs (0 + 0 * ja + 0 * jb) (0 + 0 * ja + 0 * jb) _ (F0 m 14 ls [])) (fun (jb : Nat) (H : Heap) (locs : List Loc) (ls : Array Slot) => lv_has ls 7 [(3, .long (lZ (dEi σ (dEs σ dd ja) ja jb))), (6, .int (iZ ((jb : Nat) : Int))), (5, .int (iZ ((ja : Nat) : Int))), (0, .ref (q 0)), (1, .long (lZ (dd)))] ∧ gX dC dI dA q σ H ∧ va_S (kA q s.heap.size) s.heap H locs) 4 (fun H locs ls hI => ?_) (fun jb H locs ls hk_jb hI ih_jb => ?_) _ _ _ ⟨by have h9 := lv_sub hl [1, 0, 2, 3, 4] rfl; exact h9, hG, hS⟩
    · obtain ⟨hl, hG, hS⟩ := hI
      obtain ⟨tb, tn, tm, htn, hfit, htm, hP⟩ := id hG
      refine lv_iload hx hb dX1_digestOfFeastsInYears_14 (lv_at hl 1 rfl) ?_
      refine lv_iconst (v := iZ 4) hx hb dX1_digestOfFeastsInYears_16 rfl ?_
      refine kz_icmp_ge (tgt := 50) hx hb (by first | omega | (have := bZ_rng (inYr σ jb (σ 2 ja)); omega)) (by first | omega | (have := bZ_rng (inYr σ jb (σ 2 ja)); omega)) dX1_digestOfFeastsInYears_17 (by decide) (fun c_3 => ?_) (fun c_3 => absurd c_3 (by omega))
      refine lv_iinc (v := iZ (((ja : Nat) : Int) + 1)) (lv' := [(5, .int (iZ (((ja : Nat) : Int) + 1))), (3, .long (lZ (dEi σ (dEs σ dd ja) ja 4))), (6, .int (iZ (((4 : Nat) : Int)))), (0, .ref (q 0)), (1, .long (lZ (dd)))]) hx hb dX1_digestOfFeastsInYears_50 hl (k := 2) rfl (iZ_add _ _) (by decide) rfl (fun ls hl => ?_)
      refine lv_goto (tgt := 5) hx hb dX1_digestOfFeastsInYears_53 (by decide) ?_
      refine W.widen (k := 0 + 0 * (ja + 1)) (n := 0 + 0 * (ja + 1)) (show (0 + 0 * ja + 0 * 4 : Nat) ≤ 0 + 0 * (ja + 1) from by omega) (show (0 + 0 * ja + 0 * 4 : Nat) ≤ 0 + 0 * (ja + 1) from by omega) ?_
      exact ih_ja _ _ ls ⟨by have h9 := lv_sub hl [1, 0, 3, 4] rfl; rw [show dEi σ (dEs σ dd ja) ja 4 = dEs σ dd (ja + 1) from rfl, show ((ja : Nat) : Int) + 1 = ((ja + 1 : Nat) : Int) from by omega] at h9; exact h9, hG, hS⟩
    · obtain ⟨hl, hG, hS⟩ := hI
      obtain ⟨tb, tn, tm, htn, hfit, htm, hP⟩ := id hG
      refine lv_iload hx hb dX1_digestOfFeastsInYears_14 (lv_at hl 1 rfl) ?_
      refine lv_iconst (v := iZ 4) hx hb dX1_digestOfFeastsInYears_16 rfl ?_
      refine kz_icmp_ge (tgt := 50) hx hb (by first | omega | (have := bZ_rng (inYr σ jb (σ 2 ja)); omega)) (by first | omega | (have := bZ_rng (inYr σ jb (σ 2 ja)); omega)) dX1_digestOfFeastsInYears_17 (by decide) (fun c_4 => absurd c_4 (by omega)) (fun c_4 => ?_)
      refine lv_lload_n hx hb dX1_digestOfFeastsInYears_20 rfl (lv_at hl 0 rfl) ?_
      refine lv_ldc2 (v := lZ 31) hx hb hown (hts _ (List.mem_cons_of_mem _ mw219)) dX1_digestOfFeastsInYears_21 ?_
      refine kz_lmul hx hb dX1_digestOfFeastsInYears_24 ?_
      refine lv_aload_n hx hb dX1_digestOfFeastsInYears_25 rfl (lv_at hl 3 rfl) ?_
      refine lv_iload hx hb dX1_digestOfFeastsInYears_26 (lv_at hl 1 rfl) ?_
      refine lv_aload_n hx hb dX1_digestOfFeastsInYears_28 rfl (lv_at hl 3 rfl) ?_
      refine va_get (D := (dC, dI)) (ci := 4) (v := .ref (q 2)) (C := RX1) (T := TX1) (N := 8) hx hb hts (fun w h => List.mem_cons_of_mem _ (gF_0_in h)) hown hM.1 hP 0 rfl rfl 1 (by decide) (hts _ (List.mem_cons_of_mem _ mw98)) (fun _ h9 => h9) rfl dX1_digestOfFeastsInYears_29 ?_
      refine lv_iload hx hb dX1_digestOfFeastsInYears_32 (lv_at hl 2 rfl) ?_
      refine kz_iald (v := σ 2 ja) hx hb hM.1 hP 2 0 rfl rfl (by omega) (by decide) rfl dX1_digestOfFeastsInYears_34 ?_
      refine kc0 (fun _ q => q) (va_runV (As := [.int (iZ ((jb : Nat) : Int)), .int (iZ (σ 2 ja))]) (rest := [.long (lZ ((dEi σ (dEs σ dd ja) ja jb) * 31))]) ⟨hx, hb, hml, hown, hts⟩ (c_X1_isFeastIn l dC dI dA k q (σ) _ ⟨tb, tn, tm, htn, hfit, htm, hP⟩ (hOK) jb ((σ 2 ja)) (by first | exact hk_ja | exact hk_jb | omega) (by first | exact hk_ja | exact hk_jb | omega)) (cwV 2 hts (kg_V mw202 mw203 mw4 mw42 rfl mw204) rfl rfl rfl hdV_X1_isFeastIn ⟨Nat.le_of_ble_eq_true rfl, Nat.le_of_ble_eq_true rfl⟩) ⟨fun a U g mk q => ⟨q.1, q.2.1, kM_call q.2.2⟩, va_recv hM.1 hP (ci := 4) (q0 := 0) rfl rfl, fun U hU hW => ⟨rfl, hU, kM_kept hM hS hAN hU hW⟩⟩ rfl rfl hl.1 rfl (lv_room (Nat.le_of_ble_eq_true rfl)) dX1_digestOfFeastsInYears_35 ⟨show (0 + 0 * ja + 0 * jb : Nat) + 0 ≤ 0 from by omega, show (0 + 0 * ja + 0 * jb : Nat) + 0 ≤ 0 from by omega⟩) ?_
      refine kc0 (fun _ q => q) (va_runS (As := [.int (iZ (bZ (inYr σ jb (((σ 2 ja))))))]) (rest := [.long (lZ ((dEi σ (dEs σ dd ja) ja jb) * 31))]) ⟨hx, hb, hml, hown, hts⟩ (c_X1_oneIf l _ (inYr σ jb (((σ 2 ja))))) (va_cwS 1 hts (kg_S mw176 mw177 mw42 rfl mw178) rfl rfl rfl hdS_X1_oneIf ⟨Nat.le_of_ble_eq_true rfl, Nat.le_of_ble_eq_true rfl⟩) ⟨fun a U g mk q => q, fun U hU hW => ⟨rfl, hU⟩⟩ rfl rfl hl.1 rfl (lv_room (Nat.le_of_ble_eq_true rfl)) dX1_digestOfFeastsInYears_38 ⟨show (0 + 0 * ja + 0 * jb : Nat) + 0 ≤ 0 from by omega, show (0 + 0 * ja + 0 * jb : Nat) + 0 ≤ 0 from by omega⟩) ?_
      refine kz_i2l hx hb (by first | omega | (have := bZ_rng (inYr σ jb (σ 2 ja)); omega)) dX1_digestOfFeastsInYears_41 ?_
      refine kz_ladd hx hb dX1_digestOfFeastsInYears_42 ?_
      refine lv_lstore_n (lv' := [(3, .long (lZ (((dEi σ (dEs σ dd ja) ja jb) * 31) + ((bZ ((inYr σ jb (((σ 2 ja)))))))))), (6, .int (iZ ((jb : Nat) : Int))), (5, .int (iZ ((ja : Nat) : Int))), (0, .ref (q 0)), (1, .long (lZ (dd)))]) hx hb dX1_digestOfFeastsInYears_43 rfl hl (by decide) rfl (fun ls hl => ?_)
      refine lv_iinc (v := iZ (((jb : Nat) : Int) + 1)) (lv' := [(6, .int (iZ (((jb : Nat) : Int) + 1))), (3, .long (lZ (((dEi σ (dEs σ dd ja) ja jb) * 31) + ((bZ ((inYr σ jb (((σ 2 ja)))))))))), (5, .int (iZ ((ja : Nat) : Int))), (0, .ref (q 0)), (1, .long (lZ (dd)))]) hx hb dX1_digestOfFeastsInYears_44 hl (k := 1) rfl (iZ_add _ _) (by decide) rfl (fun ls hl => ?_)
      refine lv_goto (tgt := 14) hx hb dX1_digestOfFeastsInYears_47 (by decide) ?_
      refine W.widen (k := 0 + 0 * ja + 0 * (jb + 1)) (n := 0 + 0 * ja + 0 * (jb + 1)) (show (0 + 0 * ja + 0 * jb : Nat) ≤ 0 + 0 * ja + 0 * (jb + 1) from by omega) (show (0 + 0 * ja + 0 * jb : Nat) ≤ 0 + 0 * ja + 0 * (jb + 1) from by omega) ?_
      exact ih_jb _ _ ls ⟨by have h9 := lv_sub hl [1, 0, 2, 3, 4] rfl; rw [show dEi σ (dEs σ dd ja) ja jb * 31 + bZ (inYr σ jb (σ 2 ja)) = dEi σ (dEs σ dd ja) ja (jb + 1) from rfl, show ((jb : Nat) : Int) + 1 = ((jb + 1 : Nat) : Int) from by omega] at h9; exact h9, hG, hS⟩

abbrev ww_X1_digest : List Cond := .code yX1_digest cX1_digest 4 (some .long) :: gT
set_option maxHeartbeats 4000000 in
set_option maxRecDepth 100000 in
theorem c_X1_digest (l : Launch) (hst : l.stackTraces = false) (dC : Nat → ClassId) (dI : Nat → Nat → Nat) (dA : Nat → ClassId) (k : Nat → Nat) (q : Nat → Nat) (σ : Nat → Nat → Int) (H0 : Heap) (hG : gX dC dI dA q σ H0) (hOK : kOK σ) (hq : kQI q k) (h8 : -2147483648 ≤ σ 8 0 ∧ σ 8 0 < 2147483648) : Met l yX1_digest ww_X1_digest ({ frames := 11, cells := 245, slots := 1470, locals := 373 }) (va_Pc [.ref (q 0)] (fun U => U.heap = H0 ∧ kMJ dC dI dA k U)) (kQ2 (some (.long (lZ (dig σ)))) (gX dC dI dA q σ) (kA q H0.size)) 245 1470 (kA q H0.size) := by
  refine Met.ofW (cc := cX1_digest) (maxL := 4) (ret := (some .long)) (by decide) rfl ?_
  intro p e s m args below meth c s₁ B hml hv
  obtain ⟨rfl, hH, hMJ⟩ := hv
  subst hH
  obtain ⟨tb, tn, tm, htn, hfit, htm, hP⟩ := id hG
  have hM := hMJ.1
  have hAN : ∀ a, kA q s.heap.size a → k 0 ≤ a := kA_N hq hM.2.1.1
  have hne78 : q 7 ≠ q 8 := fun z => absurd (hq.1 7 8 (by decide) (by decide) z) (by decide)
  have hk7 := hq.2 7 (by decide)
  have hk8 := hq.2 8 (by decide)
  have hS : va_S (kA q s.heap.size) s.heap s.heap [] := va_S.rf
  have hx := B.exec
  have hb := B.bytes
  have hr9 := B.returns
  have hts := atoms_spec (ws := ww_X1_digest) B.pre
  have hown : s.vm.findClass RX1 = some m.cls := findClass_of_methodNamed B.named
  have hlocks := B.notSynchronized
  have hl := lv_entry ([.ref (q 0)]) (n := 4) (Nat.le_of_ble_eq_true rfl)
  rw [lg_entry_eq]
  generalize (lg_sl ([.ref (q 0)]) ++ List.replicate (4 - (lg_sl ([.ref (q 0)])).length) Slot.unset).toArray = ls at hl ⊢
  have hl : lv_has ls 4 [(0, .ref (q 0))] := hl
  refine lv_aload_n hx hb dX1_digest_0 rfl (lv_at hl 0 rfl) ?_
  refine lv_ldc2 (v := lZ 7792) hx hb hown (hts _ (List.mem_cons_of_mem _ mw215)) dX1_digest_1 ?_
  refine kc2 (va_runV (As := [.long (lZ (7792))]) (rest := []) ⟨hx, hb, hml, hown, hts⟩ (c_X1_digestOfLeaves l hst dC dI dA k q σ _ hG hOK hq (7792)) (cwV 1 hts (kg_V mw216 mw217 mw6 mw42 rfl mw218) rfl rfl rfl hdV_X1_digestOfLeaves ⟨Nat.le_of_ble_eq_true rfl, Nat.le_of_ble_eq_true rfl⟩) ⟨fun a U g mk q => ⟨q.1, q.2.1, kMJ_call q.2.2⟩, va_recv hMJ.1.1 hP (ci := 4) (q0 := 0) rfl rfl, fun U hU hW => ⟨rfl, hU, kMJ_kept hMJ hS hAN hU hW⟩⟩ rfl rfl hl.1 rfl (lv_room (Nat.le_of_ble_eq_true rfl)) dX1_digest_4 ⟨show (0 : Nat) + 64 ≤ 245 from by omega, show (0 : Nat) + 384 ≤ 1470 from by omega⟩) hS (fun a _ h => kA_up hS.1 a h) (fun a h => kA_up hS.1 a h) (fun H locs hG hy9 hk9 hS => ?_)
  obtain ⟨tb, tn, tm, htn, hfit, htm, hP⟩ := id hG
  clear hy9 hk9
  refine lv_lstore_n (lv' := [(1, .long (lZ (dLs σ 7792 4))), (0, .ref (q 0))]) hx hb dX1_digest_7 rfl hl (by decide) rfl (fun ls hl => ?_)
  refine lv_aload_n hx hb dX1_digest_8 rfl (lv_at hl 1 rfl) ?_
  refine lv_lload_n hx hb dX1_digest_9 rfl (lv_at hl 0 rfl) ?_
  refine kc2 (va_runV (As := [.long (lZ (dLs σ 7792 4))]) (rest := []) ⟨hx, hb, hml, hown, hts⟩ (c_X1_digestOfYears l hst dC dI dA k q σ _ hG hOK hq ((dLs σ 7792 4))) (cwV 1 hts (kg_V mw527 mw528 mw9 mw42 rfl mw529) rfl rfl rfl hdV_X1_digestOfYears ⟨Nat.le_of_ble_eq_true rfl, Nat.le_of_ble_eq_true rfl⟩) ⟨fun a U g mk q => ⟨q.1, q.2.1, kMJ_call q.2.2⟩, va_recv hMJ.1.1 hP (ci := 4) (q0 := 0) rfl rfl, fun U hU hW => ⟨rfl, hU, kMJ_kept hMJ hS hAN hU hW⟩⟩ rfl rfl hl.1 rfl (lv_room (Nat.le_of_ble_eq_true rfl)) dX1_digest_10 ⟨show (0 + 64 : Nat) + 40 ≤ 245 from by omega, show (0 + 384 : Nat) + 240 ≤ 1470 from by omega⟩) hS (fun a _ h => kA_up hS.1 a h) (fun a h => kA_up hS.1 a h) (fun H locs hG hy9 hk9 hS => ?_)
  obtain ⟨tb, tn, tm, htn, hfit, htm, hP⟩ := id hG
  clear hy9 hk9
  refine lv_lstore_n (lv' := [(1, .long (lZ (dYs σ ((dLs σ 7792 4)) 4))), (0, .ref (q 0))]) hx hb dX1_digest_13 rfl hl (by decide) rfl (fun ls hl => ?_)
  refine lv_aload_n hx hb dX1_digest_14 rfl (lv_at hl 1 rfl) ?_
  refine lv_lload_n hx hb dX1_digest_15 rfl (lv_at hl 0 rfl) ?_
  refine kc2 (va_runV (As := [.long (lZ (dYs σ ((dLs σ 7792 4)) 4))]) (rest := []) ⟨hx, hb, hml, hown, hts⟩ (c_X1_digestOfFeasts l hst dC dI dA k q σ _ hG hOK hq ((dYs σ ((dLs σ 7792 4)) 4))) (cwV 1 hts (kg_V mw534 mw535 mw10 mw42 rfl mw536) rfl rfl rfl hdV_X1_digestOfFeasts ⟨Nat.le_of_ble_eq_true rfl, Nat.le_of_ble_eq_true rfl⟩) ⟨fun a U g mk q => ⟨q.1, q.2.1, kMJ_call q.2.2⟩, va_recv hMJ.1.1 hP (ci := 4) (q0 := 0) rfl rfl, fun U hU hW => ⟨rfl, hU, kMJ_kept hMJ hS hAN hU hW⟩⟩ rfl rfl hl.1 rfl (lv_room (Nat.le_of_ble_eq_true rfl)) dX1_digest_16 ⟨show (0 + 64 + 40 : Nat) + 40 ≤ 245 from by omega, show (0 + 384 + 240 : Nat) + 240 ≤ 1470 from by omega⟩) hS (fun a _ h => kA_up hS.1 a h) (fun a h => kA_up hS.1 a h) (fun H locs hG hy9 hk9 hS => ?_)
  obtain ⟨tb, tn, tm, htn, hfit, htm, hP⟩ := id hG
  clear hy9 hk9
  refine lv_lstore_n (lv' := [(1, .long (lZ (dFs σ ((dYs σ ((dLs σ 7792 4)) 4)) 4))), (0, .ref (q 0))]) hx hb dX1_digest_19 rfl hl (by decide) rfl (fun ls hl => ?_)
  refine lv_aload_n hx hb dX1_digest_20 rfl (lv_at hl 1 rfl) ?_
  refine lv_lload_n hx hb dX1_digest_21 rfl (lv_at hl 0 rfl) ?_
  refine kc2 (va_runV (As := [.long (lZ (dFs σ ((dYs σ ((dLs σ 7792 4)) 4)) 4))]) (rest := []) ⟨hx, hb, hml, hown, hts⟩ (c_X1_digestOfDays l hst dC dI dA k q σ _ hG hOK hq ((dFs σ ((dYs σ ((dLs σ 7792 4)) 4)) 4))) (cwV 1 hts (kg_V mw542 mw543 mw11 mw42 rfl mw544) rfl rfl rfl hdV_X1_digestOfDays ⟨Nat.le_of_ble_eq_true rfl, Nat.le_of_ble_eq_true rfl⟩) ⟨fun a U g mk q => ⟨q.1, q.2.1, kMJ_call q.2.2⟩, va_recv hMJ.1.1 hP (ci := 4) (q0 := 0) rfl rfl, fun U hU hW => ⟨rfl, hU, kMJ_kept hMJ hS hAN hU hW⟩⟩ rfl rfl hl.1 rfl (lv_room (Nat.le_of_ble_eq_true rfl)) dX1_digest_22 ⟨show (0 + 64 + 40 + 40 : Nat) + 48 ≤ 245 from by omega, show (0 + 384 + 240 + 240 : Nat) + 288 ≤ 1470 from by omega⟩) hS (fun a _ h => kA_up hS.1 a h) (fun a h => kA_up hS.1 a h) (fun H locs hG hy9 hk9 hS => ?_)
  obtain ⟨tb, tn, tm, htn, hfit, htm, hP⟩ := id hG
  clear hy9 hk9
  refine lv_lstore_n (lv' := [(1, .long (lZ (dDs σ ((dFs σ ((dYs σ ((dLs σ 7792 4)) 4)) 4)) 4))), (0, .ref (q 0))]) hx hb dX1_digest_25 rfl hl (by decide) rfl (fun ls hl => ?_)
  refine lv_aload_n hx hb dX1_digest_26 rfl (lv_at hl 1 rfl) ?_
  refine lv_lload_n hx hb dX1_digest_27 rfl (lv_at hl 0 rfl) ?_
  refine kc2 (va_runV (As := [.long (lZ (dDs σ ((dFs σ ((dYs σ ((dLs σ 7792 4)) 4)) 4)) 4))]) (rest := []) ⟨hx, hb, hml, hown, hts⟩ (c_X1_digestOfWays l hst dC dI dA k q σ _ hG hOK hq ((dDs σ ((dFs σ ((dYs σ ((dLs σ 7792 4)) 4)) 4)) 4))) (cwV 1 hts (kg_V mw566 mw567 mw15 mw42 rfl mw568) rfl rfl rfl hdV_X1_digestOfWays ⟨Nat.le_of_ble_eq_true rfl, Nat.le_of_ble_eq_true rfl⟩) ⟨fun a U g mk q => ⟨q.1, q.2.1, kMJ_call q.2.2⟩, va_recv hMJ.1.1 hP (ci := 4) (q0 := 0) rfl rfl, fun U hU hW => ⟨rfl, hU, kMJ_kept hMJ hS hAN hU hW⟩⟩ rfl rfl hl.1 rfl (lv_room (Nat.le_of_ble_eq_true rfl)) dX1_digest_28 ⟨show (0 + 64 + 40 + 40 + 48 : Nat) + 48 ≤ 245 from by omega, show (0 + 384 + 240 + 240 + 288 : Nat) + 288 ≤ 1470 from by omega⟩) hS (fun a _ h => kA_up hS.1 a h) (fun a h => kA_up hS.1 a h) (fun H locs hG hy9 hk9 hS => ?_)
  obtain ⟨tb, tn, tm, htn, hfit, htm, hP⟩ := id hG
  clear hy9 hk9
  refine lv_lstore_n (lv' := [(1, .long (lZ (dWs σ ((dDs σ ((dFs σ ((dYs σ ((dLs σ 7792 4)) 4)) 4)) 4)) 4))), (0, .ref (q 0))]) hx hb dX1_digest_31 rfl hl (by decide) rfl (fun ls hl => ?_)
  refine lv_aload_n hx hb dX1_digest_32 rfl (lv_at hl 1 rfl) ?_
  refine lv_lload_n hx hb dX1_digest_33 rfl (lv_at hl 0 rfl) ?_
  refine kc2 (va_runV (As := [.long (lZ (dWs σ ((dDs σ ((dFs σ ((dYs σ ((dLs σ 7792 4)) 4)) 4)) 4)) 4))]) (rest := []) ⟨hx, hb, hml, hown, hts⟩ (c_X1_digestOfFeastsInYears l hst dC dI dA k q σ _ hG hOK hq ((dWs σ ((dDs σ ((dFs σ ((dYs σ ((dLs σ 7792 4)) 4)) 4)) 4)) 4))) (cwV 1 hts (kg_V mw585 mw586 mw17 mw42 rfl mw587) rfl rfl rfl hdV_X1_digestOfFeastsInYears ⟨Nat.le_of_ble_eq_true rfl, Nat.le_of_ble_eq_true rfl⟩) ⟨fun a U g mk q => ⟨q.1, q.2.1, kMJ_call q.2.2⟩, va_recv hMJ.1.1 hP (ci := 4) (q0 := 0) rfl rfl, fun U hU hW => ⟨rfl, hU, kMJ_kept hMJ hS hAN hU hW⟩⟩ rfl rfl hl.1 rfl (lv_room (Nat.le_of_ble_eq_true rfl)) dX1_digest_34 ⟨show (0 + 64 + 40 + 40 + 48 + 48 : Nat) + 0 ≤ 245 from by omega, show (0 + 384 + 240 + 240 + 288 + 288 : Nat) + 0 ≤ 1470 from by omega⟩) hS (fun a _ h => kA_up hS.1 a h) (fun a h => kA_up hS.1 a h) (fun H locs hG hy9 hk9 hS => ?_)
  obtain ⟨tb, tn, tm, htn, hfit, htm, hP⟩ := id hG
  clear hy9 hk9
  refine lv_lstore_n (lv' := [(1, .long (lZ (dEs σ ((dWs σ ((dDs σ ((dFs σ ((dYs σ ((dLs σ 7792 4)) 4)) 4)) 4)) 4)) 4))), (0, .ref (q 0))]) hx hb dX1_digest_37 rfl hl (by decide) rfl (fun ls hl => ?_)
  refine lv_iconst (v := iZ 0) hx hb dX1_digest_38 rfl ?_
  refine lv_istore_n (lv' := [(3, .int (iZ 0)), (1, .long (lZ (dEs σ ((dWs σ ((dDs σ ((dFs σ ((dYs σ ((dLs σ 7792 4)) 4)) 4)) 4)) 4)) 4))), (0, .ref (q 0))]) hx hb dX1_digest_39 rfl hl (by decide) rfl (fun ls hl => ?_)
  refine k_loop4 (W := fun (jb : Nat) (H : Heap) (locs : List Loc) (ls : Array Slot) => W p l e _ s m _ below meth c H locs (0 + 64 + 40 + 40 + 48 + 48 + 1 * jb) (0 + 384 + 240 + 240 + 288 + 288 + 6 * jb) _ (F0 m 40 ls [])) (fun (jb : Nat) (H : Heap) (locs : List Loc) (ls : Array Slot) => lv_has ls 4 [(1, .long (lZ (dHs σ (dEs σ (dWs σ (dDs σ (dFs σ (dYs σ (dLs σ 7792 4) 4) 4) 4) 4) 4) jb))), (3, .int (iZ (((jb : Nat) : Int)))), (0, .ref (q 0))] ∧ gX dC dI dA q σ H ∧ va_S (kA q s.heap.size) s.heap H locs) 5 (fun H locs ls hI => ?_) (fun jb H locs ls hk_jb hI ih_jb => ?_) _ _ _ ⟨by have h9 := lv_sub hl [1, 0, 2] rfl; exact h9, hG, hS⟩
  · obtain ⟨hl, hG, hS⟩ := hI
    obtain ⟨tb, tn, tm, htn, hfit, htm, hP⟩ := id hG
    refine lv_iload_n hx hb dX1_digest_40 rfl (lv_at hl 1 rfl) ?_
    refine lv_iconst (v := iZ 4) hx hb dX1_digest_41 rfl ?_
    refine kz_icmp_gt (tgt := 64) hx hb (by first | omega | (by_cases e4 : ((jb : Nat) : Int) = 4; (rw [e4]; show -2147483648 ≤ σ 8 0 ∧ σ 8 0 < 2147483648; omega); (have := hsR_rng (σ := σ) e4; omega))) (by first | omega | (by_cases e4 : ((jb : Nat) : Int) = 4; (rw [e4]; show -2147483648 ≤ σ 8 0 ∧ σ 8 0 < 2147483648; omega); (have := hsR_rng (σ := σ) e4; omega))) dX1_digest_42 (by decide) (fun c_1 => ?_) (fun c_1 => absurd c_1 (by omega))
    refine lv_lload_n hx hb dX1_digest_64 rfl (lv_at hl 0 rfl) ?_
    refine lv_ldc2 (v := lZ 31) hx hb hown (hts _ (List.mem_cons_of_mem _ mw219)) dX1_digest_65 ?_
    refine kz_lmul hx hb dX1_digest_68 ?_
    refine lv_aload_n hx hb dX1_digest_69 rfl (lv_at hl 2 rfl) ?_
    refine kc0 (fun _ q => q) (va_runV (As := []) (rest := [.long (lZ ((dHs σ (dEs σ (dWs σ (dDs σ (dFs σ (dYs σ (dLs σ 7792 4) 4) 4) 4) 4) 4) 5) * 31))]) ⟨hx, hb, hml, hown, hts⟩ (c_X1_isSound l dC dI dA k q (σ) _ ⟨tb, tn, tm, htn, hfit, htm, hP⟩ (hOK) ) (cwV 0 hts (kg_V mw595 mw126 mw127 mw42 rfl mw128) rfl rfl rfl hdV_X1_isSound ⟨Nat.le_of_ble_eq_true rfl, Nat.le_of_ble_eq_true rfl⟩) ⟨fun a U g mk q => ⟨q.1, q.2.1, kM_call q.2.2⟩, va_recv hM.1 hP (ci := 4) (q0 := 0) rfl rfl, fun U hU hW => ⟨rfl, hU, kM_kept hM hS hAN hU hW⟩⟩ rfl rfl hl.1 rfl (lv_room (Nat.le_of_ble_eq_true rfl)) dX1_digest_70 ⟨show (0 + 64 + 40 + 40 + 48 + 48 + 1 * 5 : Nat) + 0 ≤ 245 from by omega, show (0 + 384 + 240 + 240 + 288 + 288 + 6 * 5 : Nat) + 0 ≤ 1470 from by omega⟩) ?_
    refine kc0 (fun _ q => q) (va_runS (As := [.int (iZ (bZ (true)))]) (rest := [.long (lZ ((dHs σ (dEs σ (dWs σ (dDs σ (dFs σ (dYs σ (dLs σ 7792 4) 4) 4) 4) 4) 4) 5) * 31))]) ⟨hx, hb, hml, hown, hts⟩ (c_X1_oneIf l _ (true)) (va_cwS 1 hts (kg_S mw176 mw177 mw42 rfl mw178) rfl rfl rfl hdS_X1_oneIf ⟨Nat.le_of_ble_eq_true rfl, Nat.le_of_ble_eq_true rfl⟩) ⟨fun a U g mk q => q, fun U hU hW => ⟨rfl, hU⟩⟩ rfl rfl hl.1 rfl (lv_room (Nat.le_of_ble_eq_true rfl)) dX1_digest_73 ⟨show (0 + 64 + 40 + 40 + 48 + 48 + 1 * 5 : Nat) + 0 ≤ 245 from by omega, show (0 + 384 + 240 + 240 + 288 + 288 + 6 * 5 : Nat) + 0 ≤ 1470 from by omega⟩) ?_
    refine kz_i2l hx hb (by have := bZ_rng true; omega) dX1_digest_76 ?_
    refine kz_ladd hx hb dX1_digest_77 ?_
    refine W.widen (k := 245) (n := 1470) (show (0 + 64 + 40 + 40 + 48 + 48 + 1 * 5 : Nat) ≤ 245 from by omega) (show (0 + 384 + 240 + 240 + 288 + 288 + 6 * 5 : Nat) ≤ 1470 from by omega) ?_
    exact W.lret (v := lZ (((dHs σ (dEs σ (dWs σ (dDs σ (dFs σ (dYs σ (dLs σ 7792 4) 4) 4) 4) 4) 4) 5) * 31) + 1)) hx hb hr9 (fun t ht hW => ⟨⟨congrArg (fun z : Int => Outcome.returned (some (Value.long (lZ z)))) (show (((dHs σ (dEs σ (dWs σ (dDs σ (dFs σ (dYs σ (dLs σ 7792 4) 4) 4) 4) 4) 4) 5) * 31) + 1) = dig σ from rfl), by rw [ht]; exact hG⟩, hS.F ht⟩) hS.2.2 dX1_digest_78
  · obtain ⟨hl, hG, hS⟩ := hI
    obtain ⟨tb, tn, tm, htn, hfit, htm, hP⟩ := id hG
    refine lv_iload_n hx hb dX1_digest_40 rfl (lv_at hl 1 rfl) ?_
    refine lv_iconst (v := iZ 4) hx hb dX1_digest_41 rfl ?_
    refine kz_icmp_gt (tgt := 64) hx hb (by first | omega | (by_cases e4 : ((jb : Nat) : Int) = 4; (rw [e4]; show -2147483648 ≤ σ 8 0 ∧ σ 8 0 < 2147483648; omega); (have := hsR_rng (σ := σ) e4; omega))) (by first | omega | (by_cases e4 : ((jb : Nat) : Int) = 4; (rw [e4]; show -2147483648 ≤ σ 8 0 ∧ σ 8 0 < 2147483648; omega); (have := hsR_rng (σ := σ) e4; omega))) dX1_digest_42 (by decide) (fun c_2 => absurd c_2 (by omega)) (fun c_2 => ?_)
    refine lv_lload_n hx hb dX1_digest_45 rfl (lv_at hl 0 rfl) ?_
    refine lv_ldc2 (v := lZ 31) hx hb hown (hts _ (List.mem_cons_of_mem _ mw219)) dX1_digest_46 ?_
    refine kz_lmul hx hb dX1_digest_49 ?_
    refine lv_aload_n hx hb dX1_digest_50 rfl (lv_at hl 2 rfl) ?_
    refine lv_iload_n hx hb dX1_digest_51 rfl (lv_at hl 1 rfl) ?_
    refine kc2 (va_runV (As := [.int (iZ (((jb : Nat) : Int)))]) (rest := [.long (lZ ((dHs σ (dEs σ (dWs σ (dDs σ (dFs σ (dYs σ (dLs σ 7792 4) 4) 4) 4) 4) 4) jb) * 31))]) ⟨hx, hb, hml, hown, hts⟩ (kMet_noX (c_X1_house l hst dC dI dA k q σ _ hG hOK hq ((((jb : Nat) : Int))) (by omega)) (fun E h => by have e9 : ex2 (!inb ((((jb : Nat) : Int))) 0 4) (false) = 0 := ex2_0 (by (simp only [inb, noThing_iff, noThing_niff, Bool.not_eq_true', Bool.not_eq_false', Bool.or_eq_true, Bool.or_eq_false_iff, decide_eq_true_eq, decide_eq_false_iff_not] <;> omega)) rfl; have h8 := h.1; omega)) (cwV 1 hts (kg_V mw588 mw589 mw590 mw42 rfl mw591) rfl rfl rfl hdV_X1_house ⟨Nat.le_of_ble_eq_true rfl, Nat.le_of_ble_eq_true rfl⟩) ⟨fun a U g mk q => ⟨q.1, q.2.1, kM_call q.2.2⟩, va_recv hM.1 hP (ci := 4) (q0 := 0) rfl rfl, fun U hU hW => ⟨rfl, hU, kM_kept hM hS hAN hU hW⟩⟩ rfl rfl hl.1 rfl (lv_room (Nat.le_of_ble_eq_true rfl)) dX1_digest_52 ⟨show (0 + 64 + 40 + 40 + 48 + 48 + 1 * jb : Nat) + 1 ≤ 245 from by omega, show (0 + 384 + 240 + 240 + 288 + 288 + 6 * jb : Nat) + 6 ≤ 1470 from by omega⟩) hS (fun a _ h => kA_up hS.1 a h) (fun a h => kA_up hS.1 a h) (fun H locs hG hy9 hk9 hS => ?_)
    obtain ⟨tb, tn, tm, htn, hfit, htm, hP⟩ := id hG
    clear hy9 hk9
    refine W.eq (g2 := F0 m 55 ls [.int (iZ (hsR σ ((((jb : Nat) : Int))))), .long (lZ ((dHs σ (dEs σ (dWs σ (dDs σ (dFs σ (dYs σ (dLs σ 7792 4) 4) 4) 4) 4) 4) jb) * 31))]) rfl ?_
    refine kz_i2l hx hb (by first | omega | (by_cases e4 : ((jb : Nat) : Int) = 4; (rw [e4]; show -2147483648 ≤ σ 8 0 ∧ σ 8 0 < 2147483648; omega); (have := hsR_rng (σ := σ) e4; omega))) dX1_digest_55 ?_
    refine kz_ladd hx hb dX1_digest_56 ?_
    refine lv_lstore_n (lv' := [(1, .long (lZ (((dHs σ (dEs σ (dWs σ (dDs σ (dFs σ (dYs σ (dLs σ 7792 4) 4) 4) 4) 4) 4) jb) * 31) + ((hsR σ ((((jb : Nat) : Int)))))))), (3, .int (iZ (((jb : Nat) : Int)))), (0, .ref (q 0))]) hx hb dX1_digest_57 rfl hl (by decide) rfl (fun ls hl => ?_)
    refine lv_iinc (v := iZ ((((jb : Nat) : Int)) + 1)) (lv' := [(3, .int (iZ ((((jb : Nat) : Int)) + 1))), (1, .long (lZ (((dHs σ (dEs σ (dWs σ (dDs σ (dFs σ (dYs σ (dLs σ 7792 4) 4) 4) 4) 4) 4) jb) * 31) + ((hsR σ ((((jb : Nat) : Int)))))))), (0, .ref (q 0))]) hx hb dX1_digest_58 hl (k := 1) rfl (iZ_add _ _) (by decide) rfl (fun ls hl => ?_)
    refine lv_goto (tgt := 40) hx hb dX1_digest_61 (by decide) ?_
    refine W.widen (k := 0 + 64 + 40 + 40 + 48 + 48 + 1 * (jb + 1)) (n := 0 + 384 + 240 + 240 + 288 + 288 + 6 * (jb + 1)) (show (0 + 64 + 40 + 40 + 48 + 48 + 1 * jb + 1 : Nat) ≤ 0 + 64 + 40 + 40 + 48 + 48 + 1 * (jb + 1) from by omega) (show (0 + 384 + 240 + 240 + 288 + 288 + 6 * jb + 6 : Nat) ≤ 0 + 384 + 240 + 240 + 288 + 288 + 6 * (jb + 1) from by omega) ?_
    exact ih_jb _ _ ls ⟨by have h9 := lv_sub hl [1, 0, 2] rfl; rw [show dHs σ (dEs σ (dWs σ (dDs σ (dFs σ (dYs σ (dLs σ 7792 4) 4) 4) 4) 4) 4) jb * 31 + hsR σ ((jb : Nat) : Int) = dHs σ (dEs σ (dWs σ (dDs σ (dFs σ (dYs σ (dLs σ 7792 4) 4) 4) 4) 4) 4) (jb + 1) from rfl, show ((jb : Nat) : Int) + 1 = ((jb + 1 : Nat) : Int) from by omega] at h9; exact h9, hG, hS⟩

