theorem k_loop3 {X Y Z : Type} {W : X → Y → Z → Prop} {x : X} {y : Y} {z : Z} (I : Nat → X → Y → Z → Prop) (N k0 : Nat) (hk0 : k0 ≤ N) (h0 : I k0 x y z) (hx : ∀ x y z, I N x y z → W x y z) (hs : ∀ k x y z, k < N → I k x y z → (∀ x' y' z', I (k + 1) x' y' z' → W x' y' z') → W x y z) : W x y z := by
  have key : ∀ d k x y z, k + d = N → I k x y z → W x y z := by
    intro d
    induction d with
    | zero => intro k x y z hk hI; exact hx x y z (by rw [show N = k by omega]; exact hI)
    | succ d ih => intro k x y z hk hI; exact hs k x y z (by omega) hI (fun x' y' z' h' => ih (k + 1) x' y' z' (by omega) h')
  exact key (N - k0) k0 x y z (by omega) h0
/-- the letters of places h to n - h turned round -/
def rvK (g : Nat → Int) (n h : Nat) : Nat → Int := fun j => if h ≤ j ∧ j < n - h then g (n - 1 - j) else g j
theorem rvK_0 {g : Nat → Int} {n : Nat} : rvK g n (n / 2 - 0) = g := by
  funext j
  unfold rvK
  split
  · rename_i h
    exact congrArg g (by omega)
  · rfl
theorem rvK_step {g : Nat → Int} {n kk i i5 : Nat} (hk : kk < n / 2) (h4 : i = n / 2 - kk - 1) (h5 : i5 = n - 1 - i) : gu (gu (rvK g n (n / 2 - kk)) i (rvK g n (n / 2 - kk) i5)) i5 (rvK g n (n / 2 - kk) i) = rvK g n (n / 2 - (kk + 1)) := by
  funext j
  have e1 : rvK g n (n / 2 - kk) i5 = g i5 := by unfold rvK; rw [if_neg (by omega)]
  have e2 : rvK g n (n / 2 - kk) i = g i := by unfold rvK; rw [if_neg (by omega)]
  rw [e1, e2]
  unfold gu rvK
  by_cases a1 : j = i5
  · rw [if_pos a1, if_pos (by omega)]; exact congrArg g (by omega)
  · rw [if_neg a1]
    by_cases a2 : j = i
    · rw [if_pos a2, if_pos (by omega)]; exact congrArg g (by omega)
    · rw [if_neg a2]
      by_cases a3 : n / 2 - kk ≤ j ∧ j < n - (n / 2 - kk)
      · rw [if_pos a3, if_pos (by omega)]
      · rw [if_neg a3, if_neg (by omega)]
theorem kG_rv {g : Nat → Int} {n h : Nat} (hg : kG g) : kG (rvK g n h) := fun j => by
  unfold rvK; split <;> exact hg _
abbrev ww_J5_setLength_d00df : List Cond := .code yJ5_setLength_d00df cJ5_setLength_d00df 2 none :: gT
set_option maxHeartbeats 4000000 in
set_option maxRecDepth 100000 in
/-- J5_setLength_d00df -/
theorem c_J5_setLength_d00df (l : Launch) (dC : Nat → ClassId) (dI : Nat → Nat → Nat) (dA : Nat → ClassId) (k : Nat → Nat) (b v : Nat) (g : Nat → Int) (tm : Int32) (n : Nat) (H0 : Heap) (hP : va_P (dC, dI) vwCl (kW b v dA g tm n) H0) (htm : tm = 0 ∨ tm = 1) (hbv : b ≠ v) (hkb : k 0 ≤ b) (hkv : k 0 ≤ v) (hg : kG g) (hn : n ≤ 16)   : Met l yJ5_setLength_d00df ww_J5_setLength_d00df ({ frames := 1, cells := 0, slots := 0, locals := 22 }) (va_Pc [.ref b, .int (iZ 0)] (fun U => U.heap = H0 ∧ kMJ dC dI dA k U)) (kQ2 (none) (gW dC dI dA b v (g) (0)) (kAB b v H0.size)) 0 0 (kAB b v H0.size) := by
  refine va_MetF (cc := cJ5_setLength_d00df) (maxL := 2) (ret := none) (by decide +kernel) rfl ?_
  intro p e s m args below meth c s₁ B hml hv
  obtain ⟨rfl, hH, hM⟩ := hv
  subst hH
  have hAN : ∀ a, kAB b v s.heap.size a → k 0 ≤ a := kAB_N hkb hkv hM.1.2.1.1
  have hS : va_S (kAB b v s.heap.size) s.heap s.heap [] := va_S.rf
  have hD : va_D (kAB b v s.heap.size) ([(b, .inr (1, [.ref v, .int 0, .int tm, .int (iZ (((n : Nat) : Int)))])), (v, .inl (dA 2, 16, .inl (fun j => iZ (g j))))] : va_W) := kW_D hbv
  have hP : va_P (dC, dI) vwCl ([(b, .inr (1, [.ref v, .int 0, .int tm, .int (iZ (((n : Nat) : Int)))])), (v, .inl (dA 2, 16, .inl (fun j => iZ (g j))))] : va_W) s.heap := hP
  have hx := B.exec
  have hb := B.bytes
  have hr9 := B.returns
  have hts := atoms_spec (ws := ww_J5_setLength_d00df) B.pre
  have hown : s.vm.findClass RJ5 = some m.cls := findClass_of_methodNamed B.named
  have hlocks := B.notSynchronized
  have hl := lv_entry ([.ref b, .int (iZ 0)]) (n := 2) (Nat.le_of_ble_eq_true rfl)
  rw [lg_entry_eq]
  generalize (lg_sl ([.ref b, .int (iZ 0)]) ++ List.replicate (2 - (lg_sl ([.ref b, .int (iZ 0)])).length) Slot.unset).toArray = ls at hl ⊢
  have hl : lv_has ls 2 [(0, .ref b), (1, .int (iZ 0))] := hl
  refine lv_iload_n hx hb dJ5_setLength_d00df_0 rfl (lv_at hl 1 rfl) ?_
  refine kz_if_ge (tgt := 13) hx hb (by omega) dJ5_setLength_d00df_1 (by decide) (fun c_1 => ?_) (fun c_1 => absurd c_1 (by omega))
  refine lv_aload_n hx hb dJ5_setLength_d00df_13 rfl (lv_at hl 0 rfl) ?_
  refine lv_iload_n hx hb dJ5_setLength_d00df_14 rfl (lv_at hl 1 rfl) ?_
  refine kc0v (fun _ q => q) (va_runU (As := [.int (iZ 0)]) (rest := []) ⟨hx, hb, hml, hown, hts⟩ (c_J5_ensureCapacityInternal_d00df l dC dI dA k b v (g) (tm) (n) _ hP htm hbv hkb hkv hg (by omega) (0) (by omega)) (va_cwU 1 hts (kg_U (C := RJ4) (owner := "java/lang/AbstractStringBuilder") (x := ⟨"java/lang/AbstractStringBuilder", "ensureCapacityInternal", "(I)V"⟩) mw266 mw1446 mwS0 mw267 mw43 rfl mw268) rfl rfl rfl rfl (by decide +kernel) ⟨Nat.le_of_ble_eq_true rfl, Nat.le_of_ble_eq_true rfl⟩) ⟨fun a U g mk q => ⟨q.1, q.2.1, kMJ_call q.2.2⟩, va_recv hM.1.1 hP (ci := 1) (q0 := 0) rfl rfl, fun U hU hW => ⟨rfl, hU, kMJ_kept hM hS hAN hU hW⟩⟩ rfl rfl hl.1 rfl (lv_room (Nat.le_of_ble_eq_true rfl)) dJ5_setLength_d00df_15 ⟨Nat.le_of_ble_eq_true rfl, Nat.le_of_ble_eq_true rfl⟩) ?_
  refine lv_aload_n hx hb dJ5_setLength_d00df_18 rfl (lv_at hl 0 rfl) ?_
  refine va_get (D := (dC, dI)) (ci := 1) (v := .int (iZ (((n : Nat) : Int)))) (C := RJ4) (T := TJ4) (N := 4) hx hb hts (fun w h => List.mem_cons_of_mem _ (gF_3_in h)) hown hM.1.1 hP 0 rfl rfl 3 (by decide) (hts _ (List.mem_cons_of_mem _ mw92)) (fun _ h9 => h9) rfl dJ5_setLength_d00df_19 ?_
  refine lv_iload_n hx hb dJ5_setLength_d00df_22 rfl (lv_at hl 1 rfl) ?_
  refine kz_icmp_ge (tgt := 63) hx hb (by omega) (by omega) dJ5_setLength_d00df_23 (by decide) (fun c_2 => ?_) (fun c_2 => absurd c_2 (by omega))
  refine lv_aload_n hx hb dJ5_setLength_d00df_63 rfl (lv_at hl 0 rfl) ?_
  refine va_get (D := (dC, dI)) (ci := 1) (v := .int (iZ (((n : Nat) : Int)))) (C := RJ4) (T := TJ4) (N := 4) hx hb hts (fun w h => List.mem_cons_of_mem _ (gF_3_in h)) hown hM.1.1 hP 0 rfl rfl 3 (by decide) (hts _ (List.mem_cons_of_mem _ mw92)) (fun _ h9 => h9) rfl dJ5_setLength_d00df_64 ?_
  refine lv_iload_n hx hb dJ5_setLength_d00df_67 rfl (lv_at hl 1 rfl) ?_
  refine kz_icmp_le (tgt := 76) hx hb (by omega) (by omega) dJ5_setLength_d00df_68 (by decide) (fun c_3 => ?_) (fun c_3 => ?_)
  · refine lv_aload_n hx hb dJ5_setLength_d00df_76 rfl (lv_at hl 0 rfl) ?_
    refine lv_iload_n hx hb dJ5_setLength_d00df_77 rfl (lv_at hl 1 rfl) ?_
    refine va_put (D := (dC, dI)) (ci := 1) (v := .int (iZ 0)) (ty := .int) (C := RJ4) (T := TJ4) (N := 4) hx hb hts (fun w h => List.mem_cons_of_mem _ (gF_3_in h)) tyJ4 tyJ4_ok nmJ4 hown hM.1.1 hP hD hS 0 rfl rfl 3 (by decide) (hts _ (List.mem_cons_of_mem _ mw92)) (fun _ h9 => h9) rfl (by decide +kernel) rfl rfl (Nat.le_of_ble_eq_true rfl) dJ5_setLength_d00df_78 (fun H locs hP hD hS => ?_)
    have hP : va_P (dC, dI) vwCl ([(b, .inr (1, [.ref v, .int 0, .int tm, .int (iZ 0)])), (v, .inl (dA 2, 16, .inl (fun j => iZ (g j))))] : va_W) _ := hP
    have hD : va_D (kAB b v s.heap.size) ([(b, .inr (1, [.ref v, .int 0, .int tm, .int (iZ 0)])), (v, .inl (dA 2, 16, .inl (fun j => iZ (g j))))] : va_W) := hD
    have hP : va_P (dC, dI) vwCl (kW b v dA (g) (tm) (0)) _ := hP.sub [0, 1] rfl
    exact W.vret hx hb hr9 (fun t ht hW => ⟨⟨rfl, gW_cast ⟨_, htm, by rw [ht]; exact hP⟩ (show g = g from rfl) (show (0 : Nat) = 0 from rfl)⟩, hS.F ht⟩) hS.2.2 dJ5_setLength_d00df_81
  · refine lv_aload_n hx hb dJ5_setLength_d00df_71 rfl (lv_at hl 0 rfl) ?_
    refine lv_iconst (v := iZ 1) hx hb dJ5_setLength_d00df_72 rfl ?_
    refine va_put (D := (dC, dI)) (ci := 1) (v := .int (iZ 1)) (ty := .boolean) (C := RJ4) (T := TJ4) (N := 4) hx hb hts (fun w h => List.mem_cons_of_mem _ (gF_3_in h)) tyJ4 tyJ4_ok nmJ4 hown hM.1.1 hP hD hS 0 rfl rfl 2 (by decide) (hts _ (List.mem_cons_of_mem _ mw90)) (fun _ h9 => h9) rfl (by decide +kernel) rfl rfl (Nat.le_of_ble_eq_true rfl) dJ5_setLength_d00df_73 (fun H locs hP hD hS => ?_)
    have hP : va_P (dC, dI) vwCl ([(b, .inr (1, [.ref v, .int 0, .int (iZ 1), .int (iZ (((n : Nat) : Int)))])), (v, .inl (dA 2, 16, .inl (fun j => iZ (g j))))] : va_W) _ := hP
    have hD : va_D (kAB b v s.heap.size) ([(b, .inr (1, [.ref v, .int 0, .int (iZ 1), .int (iZ (((n : Nat) : Int)))])), (v, .inl (dA 2, 16, .inl (fun j => iZ (g j))))] : va_W) := hD
    refine lv_aload_n hx hb dJ5_setLength_d00df_76 rfl (lv_at hl 0 rfl) ?_
    refine lv_iload_n hx hb dJ5_setLength_d00df_77 rfl (lv_at hl 1 rfl) ?_
    refine va_put (D := (dC, dI)) (ci := 1) (v := .int (iZ 0)) (ty := .int) (C := RJ4) (T := TJ4) (N := 4) hx hb hts (fun w h => List.mem_cons_of_mem _ (gF_3_in h)) tyJ4 tyJ4_ok nmJ4 hown hM.1.1 hP hD hS 0 rfl rfl 3 (by decide) (hts _ (List.mem_cons_of_mem _ mw92)) (fun _ h9 => h9) rfl (by decide +kernel) rfl rfl (Nat.le_of_ble_eq_true rfl) dJ5_setLength_d00df_78 (fun H locs hP hD hS => ?_)
    have hP : va_P (dC, dI) vwCl ([(b, .inr (1, [.ref v, .int 0, .int (iZ 1), .int (iZ 0)])), (v, .inl (dA 2, 16, .inl (fun j => iZ (g j))))] : va_W) _ := hP
    have hD : va_D (kAB b v s.heap.size) ([(b, .inr (1, [.ref v, .int 0, .int (iZ 1), .int (iZ 0)])), (v, .inl (dA 2, 16, .inl (fun j => iZ (g j))))] : va_W) := hD
    have hP : va_P (dC, dI) vwCl (kW b v dA (g) ((iZ 1)) (0)) _ := hP.sub [0, 1] rfl
    exact W.vret hx hb hr9 (fun t ht hW => ⟨⟨rfl, gW_cast ⟨_, (Or.inr rfl), by rw [ht]; exact hP⟩ (show g = g from rfl) (show (0 : Nat) = 0 from rfl)⟩, hS.F ht⟩) hS.2.2 dJ5_setLength_d00df_81

abbrev ww_J4_setLength_d00df : List Cond := .code yJ4_setLength_d00df cJ4_setLength_d00df 2 none :: gT
set_option maxHeartbeats 4000000 in
set_option maxRecDepth 100000 in
/-- J4_setLength_d00df -/
theorem c_J4_setLength_d00df (l : Launch) (dC : Nat → ClassId) (dI : Nat → Nat → Nat) (dA : Nat → ClassId) (k : Nat → Nat) (b v : Nat) (g : Nat → Int) (tm : Int32) (n : Nat) (H0 : Heap) (hP : va_P (dC, dI) vwCl (kW b v dA g tm n) H0) (htm : tm = 0 ∨ tm = 1) (hbv : b ≠ v) (hkb : k 0 ≤ b) (hkv : k 0 ≤ v) (hg : kG g) (hn : n ≤ 16)   : Met l yJ4_setLength_d00df ww_J4_setLength_d00df ({ frames := 2, cells := 0, slots := 0, locals := 43 }) (va_Pc [.ref b, .int (iZ 0)] (fun U => U.heap = H0 ∧ kMJ dC dI dA k U)) (kQ2 (none) (gW dC dI dA b v (g) (0)) (kAB b v H0.size)) 0 0 (kAB b v H0.size) := by
  refine va_MetF (cc := cJ4_setLength_d00df) (maxL := 2) (ret := none) (by decide +kernel) rfl ?_
  intro p e s m args below meth c s₁ B hml hv
  obtain ⟨rfl, hH, hM⟩ := hv
  subst hH
  have hAN : ∀ a, kAB b v s.heap.size a → k 0 ≤ a := kAB_N hkb hkv hM.1.2.1.1
  have hS : va_S (kAB b v s.heap.size) s.heap s.heap [] := va_S.rf
  have hD : va_D (kAB b v s.heap.size) ([(b, .inr (1, [.ref v, .int 0, .int tm, .int (iZ (((n : Nat) : Int)))])), (v, .inl (dA 2, 16, .inl (fun j => iZ (g j))))] : va_W) := kW_D hbv
  have hP : va_P (dC, dI) vwCl ([(b, .inr (1, [.ref v, .int 0, .int tm, .int (iZ (((n : Nat) : Int)))])), (v, .inl (dA 2, 16, .inl (fun j => iZ (g j))))] : va_W) s.heap := hP
  have hx := B.exec
  have hb := B.bytes
  have hr9 := B.returns
  have hts := atoms_spec (ws := ww_J4_setLength_d00df) B.pre
  have hown : s.vm.findClass RJ4 = some m.cls := findClass_of_methodNamed B.named
  have hlocks := B.notSynchronized
  have hl := lv_entry ([.ref b, .int (iZ 0)]) (n := 2) (Nat.le_of_ble_eq_true rfl)
  rw [lg_entry_eq]
  generalize (lg_sl ([.ref b, .int (iZ 0)]) ++ List.replicate (2 - (lg_sl ([.ref b, .int (iZ 0)])).length) Slot.unset).toArray = ls at hl ⊢
  have hl : lv_has ls 2 [(0, .ref b), (1, .int (iZ 0))] := hl
  refine lv_aload_n hx hb dJ4_setLength_d00df_0 rfl (lv_at hl 0 rfl) ?_
  refine lv_iload_n hx hb dJ4_setLength_d00df_1 rfl (lv_at hl 1 rfl) ?_
  refine kc2 (va_runSU (As := [.int (iZ 0)]) (rest := []) ((hM.1.1.1 1 _ rfl).2) ⟨hx, hb, hml, hown, hts⟩ (c_J5_setLength_d00df l dC dI dA k b v (g) (tm) (n) _ hP htm hbv hkb hkv hg (by omega) ) (va_cwSU 1 hts (kg_SU mw248 mw1443 mw93 mw249 mw43 rfl mw250) rfl rfl rfl (by decide +kernel) ⟨Nat.le_of_ble_eq_true rfl, Nat.le_of_ble_eq_true rfl⟩) ⟨fun a U g mk q => ⟨q.1, q.2.1, kMJ_call q.2.2⟩, va_recv hM.1.1 hP (ci := 1) (q0 := 0) rfl rfl, fun U hU hW => ⟨rfl, hU, kMJ_kept hM hS hAN hU hW⟩⟩ rfl rfl hl.1 rfl (lv_room (Nat.le_of_ble_eq_true rfl)) dJ4_setLength_d00df_2 ⟨Nat.le_of_ble_eq_true rfl, Nat.le_of_ble_eq_true rfl⟩) hS (fun a _ h => kAB_up hS.1 a h) (fun a h => kAB_up hS.1 a h) (fun H1 locs hG hz9 hk9 hS => ?_)
  obtain ⟨tm_1, htm_1, hP9⟩ := hG
  have hP : va_P (dC, dI) vwCl ([(b, .inr (1, [.ref v, .int 0, .int tm_1, .int (iZ (((0 : Nat) : Int)))])), (v, .inl (dA 2, 16, .inl (fun j => iZ (g j))))] : va_W) H1 := hP9
  have hD : va_D (kAB b v s.heap.size) ([(b, .inr (1, [.ref v, .int 0, .int tm_1, .int (iZ (((0 : Nat) : Int)))])), (v, .inl (dA 2, 16, .inl (fun j => iZ (g j))))] : va_W) := kW_D hbv
  generalize H1 = H at hP hS ⊢
  exact W.vret hx hb hr9 (fun t ht hW => ⟨⟨rfl, gW_cast ⟨_, htm_1, by rw [ht]; exact hP⟩ (show g = g from rfl) (show (0 : Nat) = 0 from rfl)⟩, hS.F ht⟩) hS.2.2 dJ4_setLength_d00df_5

abbrev ww_J5_reverse_278bc : List Cond := .code yJ5_reverse_278bc cJ5_reverse_278bc 7 (some (.object "java/lang/AbstractStringBuilder")) :: gT
set_option maxHeartbeats 4000000 in
set_option maxRecDepth 100000 in
/-- J5_reverse_278bc -/
theorem c_J5_reverse_278bc (l : Launch) (dC : Nat → ClassId) (dI : Nat → Nat → Nat) (dA : Nat → ClassId) (k : Nat → Nat) (b v : Nat) (g : Nat → Int) (tm : Int32) (n : Nat) (H0 : Heap) (hP : va_P (dC, dI) vwCl (kW b v dA g tm n) H0) (htm : tm = 0 ∨ tm = 1) (hbv : b ≠ v) (hkb : k 0 ≤ b) (hkv : k 0 ≤ v) (hg : kG g) (hn : n ≤ 16)   : Met l yJ5_reverse_278bc ww_J5_reverse_278bc ({ frames := 1, cells := 0, slots := 0, locals := 20 }) (va_Pc [.ref b] (fun U => U.heap = H0 ∧ kMJ dC dI dA k U)) (kQ2 (some (.ref b)) (gW dC dI dA b v (rvK g n 0) (n)) (kAB b v H0.size)) 0 0 (kAB b v H0.size) := by
  refine va_MetF (cc := cJ5_reverse_278bc) (maxL := 7) (ret := (some (.object "java/lang/AbstractStringBuilder"))) (by decide +kernel) rfl ?_
  intro p e s m args below meth c s₁ B hml hv
  obtain ⟨rfl, hH, hM⟩ := hv
  subst hH
  have hAN : ∀ a, kAB b v s.heap.size a → k 0 ≤ a := kAB_N hkb hkv hM.1.2.1.1
  have hS : va_S (kAB b v s.heap.size) s.heap s.heap [] := va_S.rf
  have hD : va_D (kAB b v s.heap.size) ([(b, .inr (1, [.ref v, .int 0, .int tm, .int (iZ (((n : Nat) : Int)))])), (v, .inl (dA 2, 16, .inl (fun j => iZ (g j))))] : va_W) := kW_D hbv
  have hP : va_P (dC, dI) vwCl ([(b, .inr (1, [.ref v, .int 0, .int tm, .int (iZ (((n : Nat) : Int)))])), (v, .inl (dA 2, 16, .inl (fun j => iZ (g j))))] : va_W) s.heap := hP
  have hx := B.exec
  have hb := B.bytes
  have hr9 := B.returns
  have hts := atoms_spec (ws := ww_J5_reverse_278bc) B.pre
  have hown : s.vm.findClass RJ5 = some m.cls := findClass_of_methodNamed B.named
  have hlocks := B.notSynchronized
  have hl := lv_entry ([.ref b]) (n := 7) (Nat.le_of_ble_eq_true rfl)
  rw [lg_entry_eq]
  generalize (lg_sl ([.ref b]) ++ List.replicate (7 - (lg_sl ([.ref b])).length) Slot.unset).toArray = ls at hl ⊢
  have hl : lv_has ls 7 [(0, .ref b)] := hl
  refine lv_aload_n hx hb dJ5_reverse_278bc_0 rfl (lv_at hl 0 rfl) ?_
  refine va_get (D := (dC, dI)) (ci := 1) (v := .ref v) (C := RJ4) (T := TJ4) (N := 4) hx hb hts (fun w h => List.mem_cons_of_mem _ (gF_3_in h)) hown hM.1.1 hP 0 rfl rfl 0 (by decide) (hts _ (List.mem_cons_of_mem _ mw88)) (fun _ h9 => h9) rfl dJ5_reverse_278bc_1 ?_
  refine lv_astore_n (lv' := [(1, .ref v), (0, .ref b)]) hx hb dJ5_reverse_278bc_4 rfl hl (by decide) rfl (fun ls hl => ?_)
  refine lv_aload_n hx hb dJ5_reverse_278bc_5 rfl (lv_at hl 1 rfl) ?_
  refine va_get (D := (dC, dI)) (ci := 1) (v := .int (iZ (((n : Nat) : Int)))) (C := RJ4) (T := TJ4) (N := 4) hx hb hts (fun w h => List.mem_cons_of_mem _ (gF_3_in h)) hown hM.1.1 hP 0 rfl rfl 3 (by decide) (hts _ (List.mem_cons_of_mem _ mw92)) (fun _ h9 => h9) rfl dJ5_reverse_278bc_6 ?_
  refine lv_istore_n (lv' := [(2, .int (iZ (((n : Nat) : Int)))), (1, .ref v), (0, .ref b)]) hx hb dJ5_reverse_278bc_9 rfl hl (by decide) rfl (fun ls hl => ?_)
  refine lv_iload_n hx hb dJ5_reverse_278bc_10 rfl (lv_at hl 0 rfl) ?_
  refine lv_iconst (v := iZ 1) hx hb dJ5_reverse_278bc_11 rfl ?_
  refine kz_isub hx hb dJ5_reverse_278bc_12 ?_
  refine lv_istore_n (lv' := [(3, .int (iZ ((((n : Nat) : Int)) - 1))), (2, .int (iZ (((n : Nat) : Int)))), (1, .ref v), (0, .ref b)]) hx hb dJ5_reverse_278bc_13 rfl hl (by decide) rfl (fun ls hl => ?_)
  refine lv_aload_n hx hb dJ5_reverse_278bc_14 rfl (lv_at hl 3 rfl) ?_
  refine kc0 (fun _ q => q) (va_runU (As := []) (rest := []) ⟨hx, hb, hml, hown, hts⟩ (c_J5_isLatin1_aae02 l dC dI dA k b v (g) (tm) (n) _ hP htm hbv hkb hkv hg (by omega) ) (va_cwU 0 hts (kg_U (C := RJ4) (owner := "java/lang/AbstractStringBuilder") (x := ⟨"java/lang/AbstractStringBuilder", "isLatin1", "()Z"⟩) mw298 mw300 mw301 mw299 mw43 rfl mw302) rfl rfl rfl rfl (by decide +kernel) ⟨Nat.le_of_ble_eq_true rfl, Nat.le_of_ble_eq_true rfl⟩) ⟨fun a U g mk q => ⟨q.1, q.2.1, kMJ_call q.2.2⟩, va_recv hM.1.1 hP (ci := 1) (q0 := 0) rfl rfl, fun U hU hW => ⟨rfl, hU, kMJ_kept hM hS hAN hU hW⟩⟩ rfl rfl hl.1 rfl (lv_room (Nat.le_of_ble_eq_true rfl)) dJ5_reverse_278bc_15 ⟨Nat.le_of_ble_eq_true rfl, Nat.le_of_ble_eq_true rfl⟩) ?_
  refine kz_ifb_eq (tgt := 68) hx hb  dJ5_reverse_278bc_18 (by decide) (fun c_1 => absurd c_1 (by decide)) (fun c_1 => ?_)
  refine lv_iload_n hx hb dJ5_reverse_278bc_21 rfl (lv_at hl 0 rfl) ?_
  refine lv_iconst (v := iZ 1) hx hb dJ5_reverse_278bc_22 rfl ?_
  refine kz_isub hx hb dJ5_reverse_278bc_23 ?_
  refine lv_iconst (v := iZ 1) hx hb dJ5_reverse_278bc_24 rfl ?_
  refine kz_ishr1 hx hb (by omega) dJ5_reverse_278bc_25 ?_
  refine lv_istore (lv' := [(4, .int (iZ (((((((n : Nat) : Int)) - 1) - 1)) / 2))), (3, .int (iZ ((((n : Nat) : Int)) - 1))), (2, .int (iZ (((n : Nat) : Int)))), (1, .ref v), (0, .ref b)]) hx hb dJ5_reverse_278bc_26 hl (by decide) rfl (fun ls hl => ?_)
  refine k_loop3 (W := fun (H : Heap) (locs : List Loc) (ls : Array Slot) => W p l e _ s m _ below meth c H locs _ _ _ (F0 m 28 ls [])) (fun (kk : Nat) (H : Heap) (locs : List Loc) (ls : Array Slot) => lv_has ls 7 [(4, .int (iZ (((n / 2 - kk : Nat) : Int) - 1))), (3, .int (iZ ((((n : Nat) : Int)) - 1))), (2, .int (iZ (((n : Nat) : Int)))), (1, .ref v), (0, .ref b)] ∧ va_P (dC, dI) vwCl ([(b, .inr (1, [.ref v, .int 0, .int tm, .int (iZ (((n : Nat) : Int)))])), (v, .inl (dA 2, 16, .inl (fun j => iZ ((rvK g n (n / 2 - kk)) j))))] : va_W) H ∧ va_S (kAB b v s.heap.size) s.heap H locs) (n / 2) 0 (Nat.zero_le _) ⟨by have h9 := lv_sub hl [0, 1, 2, 3, 4] rfl; rw [show (((n : Nat) : Int) - 1 - 1) / 2 = ((n / 2 - 0 : Nat) : Int) - 1 from by omega] at h9; exact h9, by rw [rvK_0]; exact hP, hS⟩ (fun H locs ls hI => ?_) (fun kk H locs ls hk hI ih => ?_)
  · obtain ⟨hl, hP, hS⟩ := hI
    have hD : va_D (kAB b v s.heap.size) ([(b, .inr (1, [.ref v, .int 0, .int tm, .int (iZ (((n : Nat) : Int)))])), (v, .inl (dA 2, 16, .inl (fun j => iZ ((rvK g n (n / 2 - (n / 2))) j))))] : va_W) := kW_D hbv
    refine lv_iload hx hb dJ5_reverse_278bc_28 (lv_at hl 0 rfl) ?_
    refine kz_if_lt (tgt := 65) hx hb (by omega) dJ5_reverse_278bc_30 (by decide) (fun c_2 => ?_) (fun c_2 => absurd c_2 (by omega))
    refine lv_goto (tgt := 73) hx hb dJ5_reverse_278bc_65 (by decide) ?_
    refine lv_aload_n hx hb dJ5_reverse_278bc_73 rfl (lv_at hl 4 rfl) ?_
    exact W.aret (rt := .object "java/lang/AbstractStringBuilder") hx hb hr9 (Or.inl ⟨_, rfl⟩) (Or.inr ⟨_, rfl⟩) (fun t ht hW => ⟨⟨rfl, gW_cast ⟨_, htm, by rw [ht]; exact hP⟩ (show (rvK g n (n / 2 - (n / 2))) = (rvK g n 0) from by rw [Nat.sub_self]) (show (n : Nat) = n from rfl)⟩, hS.F ht⟩) hS.2.2 dJ5_reverse_278bc_74 hlocks
  · obtain ⟨hl, hP, hS⟩ := hI
    have hD : va_D (kAB b v s.heap.size) ([(b, .inr (1, [.ref v, .int 0, .int tm, .int (iZ (((n : Nat) : Int)))])), (v, .inl (dA 2, 16, .inl (fun j => iZ ((rvK g n (n / 2 - kk)) j))))] : va_W) := kW_D hbv
    have hgk := kG_rv (n := n) (h := n / 2 - kk) hg
    refine lv_iload hx hb dJ5_reverse_278bc_28 (lv_at hl 0 rfl) ?_
    refine kz_if_lt (tgt := 65) hx hb (by omega) dJ5_reverse_278bc_30 (by decide) (fun c_3 => absurd c_3 (by omega)) (fun c_3 => ?_)
    refine lv_iload_n hx hb dJ5_reverse_278bc_33 rfl (lv_at hl 1 rfl) ?_
    refine lv_iload hx hb dJ5_reverse_278bc_34 (lv_at hl 0 rfl) ?_
    refine kz_isub hx hb dJ5_reverse_278bc_36 ?_
    refine lv_istore (lv' := [(5, .int (iZ (((((n : Nat) : Int)) - 1) - (((n / 2 - kk : Nat) : Int) - 1)))), (4, .int (iZ (((n / 2 - kk : Nat) : Int) - 1))), (3, .int (iZ ((((n : Nat) : Int)) - 1))), (2, .int (iZ (((n : Nat) : Int)))), (1, .ref v), (0, .ref b)]) hx hb dJ5_reverse_278bc_37 hl (by decide) rfl (fun ls hl => ?_)
    refine lv_aload_n hx hb dJ5_reverse_278bc_39 rfl (lv_at hl 4 rfl) ?_
    refine lv_iload hx hb dJ5_reverse_278bc_40 (lv_at hl 1 rfl) ?_
    refine kz_bald hx hb hM.1.1 hP 1 rfl (by omega) (by omega) dJ5_reverse_278bc_42 ?_
    refine lv_istore (lv' := [(6, .int (iZ ((rvK g n (n / 2 - kk)) ((((n / 2 - kk : Nat) : Int) - 1)).toNat))), (5, .int (iZ (((((n : Nat) : Int)) - 1) - (((n / 2 - kk : Nat) : Int) - 1)))), (4, .int (iZ (((n / 2 - kk : Nat) : Int) - 1))), (3, .int (iZ ((((n : Nat) : Int)) - 1))), (2, .int (iZ (((n : Nat) : Int)))), (1, .ref v), (0, .ref b)]) hx hb dJ5_reverse_278bc_43 hl (by decide) rfl (fun ls hl => ?_)
    refine lv_aload_n hx hb dJ5_reverse_278bc_45 rfl (lv_at hl 5 rfl) ?_
    refine lv_iload hx hb dJ5_reverse_278bc_46 (lv_at hl 2 rfl) ?_
    refine lv_aload_n hx hb dJ5_reverse_278bc_48 rfl (lv_at hl 5 rfl) ?_
    refine lv_iload hx hb dJ5_reverse_278bc_49 (lv_at hl 1 rfl) ?_
    refine kz_bald hx hb hM.1.1 hP 1 rfl (by omega) (by omega) dJ5_reverse_278bc_51 ?_
    refine kz_bast hx hb hM.1.1 hP hD hS 1 rfl (by omega) (by omega) (hgk _) dJ5_reverse_278bc_52 (fun H locs hP hD hS => ?_)
    have hP : va_P (dC, dI) vwCl ([(b, .inr (1, [.ref v, .int 0, .int tm, .int (iZ (((n : Nat) : Int)))])), (v, .inl (dA 2, 16, .inl (fun j => iZ ((gu (rvK g n (n / 2 - kk)) ((((n / 2 - kk : Nat) : Int) - 1)).toNat (((rvK g n (n / 2 - kk)) ((((((n : Nat) : Int)) - 1) - (((n / 2 - kk : Nat) : Int) - 1))).toNat))) j))))] : va_W) _ := hP
    have hD : va_D (kAB b v s.heap.size) ([(b, .inr (1, [.ref v, .int 0, .int tm, .int (iZ (((n : Nat) : Int)))])), (v, .inl (dA 2, 16, .inl (fun j => iZ ((gu (rvK g n (n / 2 - kk)) ((((n / 2 - kk : Nat) : Int) - 1)).toNat (((rvK g n (n / 2 - kk)) ((((((n : Nat) : Int)) - 1) - (((n / 2 - kk : Nat) : Int) - 1))).toNat))) j))))] : va_W) := hD
    refine lv_aload_n hx hb dJ5_reverse_278bc_53 rfl (lv_at hl 5 rfl) ?_
    refine lv_iload hx hb dJ5_reverse_278bc_54 (lv_at hl 1 rfl) ?_
    refine lv_iload hx hb dJ5_reverse_278bc_56 (lv_at hl 0 rfl) ?_
    refine kz_bast hx hb hM.1.1 hP hD hS 1 rfl (by omega) (by omega) (hgk _) dJ5_reverse_278bc_58 (fun H locs hP hD hS => ?_)
    have hP : va_P (dC, dI) vwCl ([(b, .inr (1, [.ref v, .int 0, .int tm, .int (iZ (((n : Nat) : Int)))])), (v, .inl (dA 2, 16, .inl (fun j => iZ ((gu (gu (rvK g n (n / 2 - kk)) ((((n / 2 - kk : Nat) : Int) - 1)).toNat (((rvK g n (n / 2 - kk)) ((((((n : Nat) : Int)) - 1) - (((n / 2 - kk : Nat) : Int) - 1))).toNat))) ((((((n : Nat) : Int)) - 1) - (((n / 2 - kk : Nat) : Int) - 1))).toNat (((rvK g n (n / 2 - kk)) ((((n / 2 - kk : Nat) : Int) - 1)).toNat))) j))))] : va_W) _ := hP
    have hD : va_D (kAB b v s.heap.size) ([(b, .inr (1, [.ref v, .int 0, .int tm, .int (iZ (((n : Nat) : Int)))])), (v, .inl (dA 2, 16, .inl (fun j => iZ ((gu (gu (rvK g n (n / 2 - kk)) ((((n / 2 - kk : Nat) : Int) - 1)).toNat (((rvK g n (n / 2 - kk)) ((((((n : Nat) : Int)) - 1) - (((n / 2 - kk : Nat) : Int) - 1))).toNat))) ((((((n : Nat) : Int)) - 1) - (((n / 2 - kk : Nat) : Int) - 1))).toNat (((rvK g n (n / 2 - kk)) ((((n / 2 - kk : Nat) : Int) - 1)).toNat))) j))))] : va_W) := hD
    refine lv_iinc (v := iZ ((((n / 2 - kk : Nat) : Int) - 1) - 1)) (lv' := [(4, .int (iZ ((((n / 2 - kk : Nat) : Int) - 1) - 1))), (6, .int (iZ ((rvK g n (n / 2 - kk)) ((((n / 2 - kk : Nat) : Int) - 1)).toNat))), (5, .int (iZ (((((n : Nat) : Int)) - 1) - (((n / 2 - kk : Nat) : Int) - 1)))), (3, .int (iZ ((((n : Nat) : Int)) - 1))), (2, .int (iZ (((n : Nat) : Int)))), (1, .ref v), (0, .ref b)]) hx hb dJ5_reverse_278bc_59 hl (k := 2) rfl (by rw [show Int32.ofInt (-1) = iZ (-1) from rfl, iZ_add]; exact congrArg iZ (by omega)) (by decide) rfl (fun ls hl => ?_)
    refine lv_goto (tgt := 28) hx hb dJ5_reverse_278bc_62 (by decide) ?_
    exact ih _ _ ls ⟨by have h9 := lv_sub hl [0, 3, 4, 5, 6] rfl; rw [show ((n / 2 - kk : Nat) : Int) - 1 - 1 = ((n / 2 - (kk + 1) : Nat) : Int) - 1 from by omega] at h9; exact h9, by rw [rvK_step (n := n) hk (by omega) (by omega)] at hP; exact hP, hS⟩

abbrev ww_J4_reverse_43fcb : List Cond := .code yJ4_reverse_43fcb cJ4_reverse_43fcb 1 (some (.object "java/lang/StringBuilder")) :: gT
set_option maxHeartbeats 4000000 in
set_option maxRecDepth 100000 in
/-- J4_reverse_43fcb -/
theorem c_J4_reverse_43fcb (l : Launch) (dC : Nat → ClassId) (dI : Nat → Nat → Nat) (dA : Nat → ClassId) (k : Nat → Nat) (b v : Nat) (g : Nat → Int) (tm : Int32) (n : Nat) (H0 : Heap) (hP : va_P (dC, dI) vwCl (kW b v dA g tm n) H0) (htm : tm = 0 ∨ tm = 1) (hbv : b ≠ v) (hkb : k 0 ≤ b) (hkv : k 0 ≤ v) (hg : kG g) (hn : n ≤ 16)   : Met l yJ4_reverse_43fcb ww_J4_reverse_43fcb ({ frames := 2, cells := 0, slots := 0, locals := 46 }) (va_Pc [.ref b] (fun U => U.heap = H0 ∧ kMJ dC dI dA k U)) (kQ2 (some (.ref b)) (gW dC dI dA b v (rvK g n 0) (n)) (kAB b v H0.size)) 0 0 (kAB b v H0.size) := by
  refine va_MetF (cc := cJ4_reverse_43fcb) (maxL := 1) (ret := (some (.object "java/lang/StringBuilder"))) (by decide +kernel) rfl ?_
  intro p e s m args below meth c s₁ B hml hv
  obtain ⟨rfl, hH, hM⟩ := hv
  subst hH
  have hAN : ∀ a, kAB b v s.heap.size a → k 0 ≤ a := kAB_N hkb hkv hM.1.2.1.1
  have hS : va_S (kAB b v s.heap.size) s.heap s.heap [] := va_S.rf
  have hD : va_D (kAB b v s.heap.size) ([(b, .inr (1, [.ref v, .int 0, .int tm, .int (iZ (((n : Nat) : Int)))])), (v, .inl (dA 2, 16, .inl (fun j => iZ (g j))))] : va_W) := kW_D hbv
  have hP : va_P (dC, dI) vwCl ([(b, .inr (1, [.ref v, .int 0, .int tm, .int (iZ (((n : Nat) : Int)))])), (v, .inl (dA 2, 16, .inl (fun j => iZ (g j))))] : va_W) s.heap := hP
  have hx := B.exec
  have hb := B.bytes
  have hr9 := B.returns
  have hts := atoms_spec (ws := ww_J4_reverse_43fcb) B.pre
  have hown : s.vm.findClass RJ4 = some m.cls := findClass_of_methodNamed B.named
  have hlocks := B.notSynchronized
  have hl := lv_entry ([.ref b]) (n := 1) (Nat.le_of_ble_eq_true rfl)
  rw [lg_entry_eq]
  generalize (lg_sl ([.ref b]) ++ List.replicate (1 - (lg_sl ([.ref b])).length) Slot.unset).toArray = ls at hl ⊢
  have hl : lv_has ls 1 [(0, .ref b)] := hl
  refine lv_aload_n hx hb dJ4_reverse_43fcb_0 rfl (lv_at hl 0 rfl) ?_
  refine kc2 (va_runSU (As := []) (rest := []) ((hM.1.1.1 1 _ rfl).2) ⟨hx, hb, hml, hown, hts⟩ (c_J5_reverse_278bc l dC dI dA k b v (g) (tm) (n) _ hP htm hbv hkb hkv hg (by omega) ) (va_cwSU 0 hts (kg_SU mw489 mw1453 mw93 mw490 mw43 rfl mw491) rfl rfl rfl (by decide +kernel) ⟨Nat.le_of_ble_eq_true rfl, Nat.le_of_ble_eq_true rfl⟩) ⟨fun a U g mk q => ⟨q.1, q.2.1, kMJ_call q.2.2⟩, va_recv hM.1.1 hP (ci := 1) (q0 := 0) rfl rfl, fun U hU hW => ⟨rfl, hU, kMJ_kept hM hS hAN hU hW⟩⟩ rfl rfl hl.1 rfl (lv_room (Nat.le_of_ble_eq_true rfl)) dJ4_reverse_43fcb_1 ⟨Nat.le_of_ble_eq_true rfl, Nat.le_of_ble_eq_true rfl⟩) hS (fun a _ h => kAB_up hS.1 a h) (fun a h => kAB_up hS.1 a h) (fun H1 locs hG hz9 hk9 hS => ?_)
  obtain ⟨tm_1, htm_1, hP9⟩ := hG
  have hP : va_P (dC, dI) vwCl ([(b, .inr (1, [.ref v, .int 0, .int tm_1, .int (iZ (((n : Nat) : Int)))])), (v, .inl (dA 2, 16, .inl (fun j => iZ ((rvK g n 0) j))))] : va_W) H1 := hP9
  have hD : va_D (kAB b v s.heap.size) ([(b, .inr (1, [.ref v, .int 0, .int tm_1, .int (iZ (((n : Nat) : Int)))])), (v, .inl (dA 2, 16, .inl (fun j => iZ ((rvK g n 0) j))))] : va_W) := kW_D hbv
  generalize H1 = H at hP hS ⊢
  refine lv_pop hx hb dJ4_reverse_43fcb_4 rfl ?_
  refine lv_aload_n hx hb dJ4_reverse_43fcb_5 rfl (lv_at hl 0 rfl) ?_
  exact W.aret (rt := .object "java/lang/StringBuilder") hx hb hr9 (Or.inl ⟨_, rfl⟩) (Or.inr ⟨_, rfl⟩) (fun t ht hW => ⟨⟨rfl, gW_cast ⟨_, htm_1, by rw [ht]; exact hP⟩ (show (rvK g n 0) = (rvK g n 0) from rfl) (show (n : Nat) = n from rfl)⟩, hS.F ht⟩) hS.2.2 dJ4_reverse_43fcb_6 hlocks

abbrev ww_J3_checkIndex_8e157 : List Cond := .code yJ3_checkIndex_8e157 cJ3_checkIndex_8e157 3 (some .int) :: gT
set_option maxHeartbeats 4000000 in
set_option maxRecDepth 100000 in
theorem c_J3_checkIndex_8e157N (l : Launch) (H0 : Heap) (ii : Int) (nn : Int) (h0 : 0 ≤ ii ∧ ii < nn) (h1 : nn < 2147483648) : Met l yJ3_checkIndex_8e157 ww_J3_checkIndex_8e157 ({ frames := 0, cells := 0, slots := 0, locals := 0 }) (va_Pc [.int (iZ ii), .int (iZ nn), .null] (fun U => U.heap = H0)) (kQ0 (some (.int (iZ ii))) H0) 0 0 kN := by
  refine va_MetF (cc := cJ3_checkIndex_8e157) (maxL := 3) (ret := (some .int)) (by decide +kernel) rfl ?_
  intro p e s m args below meth c s₁ B hml hv
  obtain ⟨rfl, hH⟩ := hv
  subst hH
  have hx := B.exec
  have hb := B.bytes
  have hr := B.returns
  have hts := atoms_spec (ws := ww_J3_checkIndex_8e157) B.pre
  have hown : s.vm.findClass RJ3 = some m.cls := findClass_of_methodNamed B.named
  have hlocks := B.notSynchronized
  have hl := lv_entry ([.int (iZ ii), .int (iZ nn), .null]) (n := 3) (Nat.le_of_ble_eq_true rfl)
  rw [lg_entry_eq]
  generalize (lg_sl ([.int (iZ ii), .int (iZ nn), .null]) ++ List.replicate (3 - (lg_sl ([.int (iZ ii), .int (iZ nn), .null])).length) Slot.unset).toArray = ls at hl ⊢
  have hl : lv_has ls 3 [(0, .int (iZ ii)), (1, .int (iZ nn)), (2, .null)] := hl
  refine lv_iload_n hx hb dJ3_checkIndex_8e157_0 rfl (lv_at hl 0 rfl) ?_
  refine kz_if_lt (tgt := 9) hx hb (by omega) dJ3_checkIndex_8e157_1 (by decide) (fun c_1 => absurd c_1 (by omega)) (fun c_1 => ?_)
  refine lv_iload_n hx hb dJ3_checkIndex_8e157_4 rfl (lv_at hl 0 rfl) ?_
  refine lv_iload_n hx hb dJ3_checkIndex_8e157_5 rfl (lv_at hl 1 rfl) ?_
  refine kz_icmp_lt (tgt := 16) hx hb (by omega) (by omega) dJ3_checkIndex_8e157_6 (by decide) (fun c_2 => ?_) (fun c_2 => absurd c_2 (by omega))
  refine lv_iload_n hx hb dJ3_checkIndex_8e157_16 rfl (lv_at hl 0 rfl) ?_
  exact W.iret (v := iZ ii) hx hb hr (fun t ht hW => ⟨congrArg (fun z : Int => Outcome.returned (some (Value.int (iZ z)))) (show ii = ii from rfl), ht⟩) (fun q h => by cases h) dJ3_checkIndex_8e157_17

set_option maxHeartbeats 4000000 in
set_option maxRecDepth 100000 in
theorem c_J3_checkIndex_8e157R (l : Launch) (H0 : Heap) (ii : Int) (nn : Int) (tt : Nat) (h0 : 0 ≤ ii ∧ ii < nn) (h1 : nn < 2147483648) : Met l yJ3_checkIndex_8e157 ww_J3_checkIndex_8e157 ({ frames := 0, cells := 0, slots := 0, locals := 0 }) (va_Pc [.int (iZ ii), .int (iZ nn), .ref tt] (fun U => U.heap = H0)) (kQ0 (some (.int (iZ ii))) H0) 0 0 kN := by
  refine va_MetF (cc := cJ3_checkIndex_8e157) (maxL := 3) (ret := (some .int)) (by decide +kernel) rfl ?_
  intro p e s m args below meth c s₁ B hml hv
  obtain ⟨rfl, hH⟩ := hv
  subst hH
  have hx := B.exec
  have hb := B.bytes
  have hr := B.returns
  have hts := atoms_spec (ws := ww_J3_checkIndex_8e157) B.pre
  have hown : s.vm.findClass RJ3 = some m.cls := findClass_of_methodNamed B.named
  have hlocks := B.notSynchronized
  have hl := lv_entry ([.int (iZ ii), .int (iZ nn), .ref tt]) (n := 3) (Nat.le_of_ble_eq_true rfl)
  rw [lg_entry_eq]
  generalize (lg_sl ([.int (iZ ii), .int (iZ nn), .ref tt]) ++ List.replicate (3 - (lg_sl ([.int (iZ ii), .int (iZ nn), .ref tt])).length) Slot.unset).toArray = ls at hl ⊢
  have hl : lv_has ls 3 [(0, .int (iZ ii)), (1, .int (iZ nn)), (2, .ref tt)] := hl
  refine lv_iload_n hx hb dJ3_checkIndex_8e157_0 rfl (lv_at hl 0 rfl) ?_
  refine kz_if_lt (tgt := 9) hx hb (by omega) dJ3_checkIndex_8e157_1 (by decide) (fun c_1 => absurd c_1 (by omega)) (fun c_1 => ?_)
  refine lv_iload_n hx hb dJ3_checkIndex_8e157_4 rfl (lv_at hl 0 rfl) ?_
  refine lv_iload_n hx hb dJ3_checkIndex_8e157_5 rfl (lv_at hl 1 rfl) ?_
  refine kz_icmp_lt (tgt := 16) hx hb (by omega) (by omega) dJ3_checkIndex_8e157_6 (by decide) (fun c_2 => ?_) (fun c_2 => absurd c_2 (by omega))
  refine lv_iload_n hx hb dJ3_checkIndex_8e157_16 rfl (lv_at hl 0 rfl) ?_
  exact W.iret (v := iZ ii) hx hb hr (fun t ht hW => ⟨congrArg (fun z : Int => Outcome.returned (some (Value.int (iZ z)))) (show ii = ii from rfl), ht⟩) (fun q h => by cases h) dJ3_checkIndex_8e157_17

abbrev ww_J0_checkIndex_df160 : List Cond := .code yJ0_checkIndex_df160 cJ0_checkIndex_df160 2 none :: gT
set_option maxHeartbeats 4000000 in
set_option maxRecDepth 100000 in
theorem c_J0_checkIndex_df160 (l : Launch) (dC : Nat → ClassId) (dI : Nat → Nat → Nat) (dA : Nat → ClassId) (k : Nat → Nat) (H0 : Heap) (ii nn : Int) (h0 : 0 ≤ ii ∧ ii < nn) (h1 : nn < 2147483648) : Met l yJ0_checkIndex_df160 ww_J0_checkIndex_df160 ({ frames := 1, cells := 0, slots := 0, locals := 22 }) (va_Pc [.int (iZ ii), .int (iZ nn)] (fun U => U.heap = H0 ∧ kMJ dC dI dA k U)) (kQ0 none H0) 0 0 kN := by
  refine va_MetF (cc := cJ0_checkIndex_df160) (maxL := 2) (ret := none) (by decide +kernel) rfl ?_
  intro p e s m args below meth c s₁ B hml hv
  obtain ⟨rfl, hH, hM⟩ := hv
  subst hH
  have hS : va_S (kN0 k) s.heap s.heap [] := va_S.rf
  have hx := B.exec
  have hb := B.bytes
  have hr := B.returns
  have hts := atoms_spec (ws := ww_J0_checkIndex_df160) B.pre
  have hown : s.vm.findClass RJ0 = some m.cls := findClass_of_methodNamed B.named
  have hlocks := B.notSynchronized
  have hl := lv_entry ([.int (iZ ii), .int (iZ nn)]) (n := 2) (Nat.le_of_ble_eq_true rfl)
  rw [lg_entry_eq]
  generalize (lg_sl ([.int (iZ ii), .int (iZ nn)]) ++ List.replicate (2 - (lg_sl ([.int (iZ ii), .int (iZ nn)])).length) Slot.unset).toArray = ls at hl ⊢
  have hl : lv_has ls 2 [(0, .int (iZ ii)), (1, .int (iZ nn))] := hl
  refine lv_iload_n hx hb dJ0_checkIndex_df160_0 rfl (lv_at hl 0 rfl) ?_
  refine lv_iload_n hx hb dJ0_checkIndex_df160_1 rfl (lv_at hl 1 rfl) ?_
  rcases hM.2.2.2.2.2.2.1 with hz | ⟨t9, hz⟩
  · refine va_gets (v := .null) hx hb hz hS hown (hts _ (List.mem_cons_of_mem _ mw315)) (fun _ h9 => h9) dJ0_checkIndex_df160_2 ?_
    refine kc0 (fun _ q => q) (va_runS (As := [.int (iZ ii), .int (iZ nn), .null]) (rest := []) ⟨hx, hb, hml, hown, hts⟩ (c_J3_checkIndex_8e157N l _ (ii) (nn) (by omega) (by omega)) (va_cwS 3 hts (kg_S mw482 mw483 mw57 rfl mw484) rfl rfl rfl hdS_J3_checkIndex_8e157 ⟨Nat.le_of_ble_eq_true rfl, Nat.le_of_ble_eq_true rfl⟩) ⟨fun a U g mk q => q, fun U hU hW => ⟨rfl, hU⟩⟩ rfl rfl hl.1 rfl (lv_room (Nat.le_of_ble_eq_true rfl)) dJ0_checkIndex_df160_5 ⟨Nat.le_of_ble_eq_true rfl, Nat.le_of_ble_eq_true rfl⟩) ?_
    refine lv_pop hx hb dJ0_checkIndex_df160_8 rfl ?_
    exact W.vret hx hb hr (fun t ht hW => ⟨rfl, ht⟩) (fun q h => by cases h) dJ0_checkIndex_df160_9
  · refine va_gets (v := .ref t9) hx hb hz hS hown (hts _ (List.mem_cons_of_mem _ mw315)) (fun _ h9 => h9) dJ0_checkIndex_df160_2 ?_
    refine kc0 (fun _ q => q) (va_runS (As := [.int (iZ ii), .int (iZ nn), .ref t9]) (rest := []) ⟨hx, hb, hml, hown, hts⟩ (c_J3_checkIndex_8e157R l _ (ii) (nn) t9 (by omega) (by omega)) (va_cwS 3 hts (kg_S mw482 mw483 mw57 rfl mw484) rfl rfl rfl hdS_J3_checkIndex_8e157 ⟨Nat.le_of_ble_eq_true rfl, Nat.le_of_ble_eq_true rfl⟩) ⟨fun a U g mk q => q, fun U hU hW => ⟨rfl, hU⟩⟩ rfl rfl hl.1 rfl (lv_room (Nat.le_of_ble_eq_true rfl)) dJ0_checkIndex_df160_5 ⟨Nat.le_of_ble_eq_true rfl, Nat.le_of_ble_eq_true rfl⟩) ?_
    refine lv_pop hx hb dJ0_checkIndex_df160_8 rfl ?_
    exact W.vret hx hb hr (fun t ht hW => ⟨rfl, ht⟩) (fun q h => by cases h) dJ0_checkIndex_df160_9

abbrev ww_J5_charAt_5068e : List Cond := .code yJ5_charAt_5068e cJ5_charAt_5068e 5 (some .char) :: gT
set_option maxHeartbeats 4000000 in
set_option maxRecDepth 100000 in
/-- J5_charAt_5068e -/
theorem c_J5_charAt_5068e (l : Launch) (dC : Nat → ClassId) (dI : Nat → Nat → Nat) (dA : Nat → ClassId) (k : Nat → Nat) (b v : Nat) (g : Nat → Int) (tm : Int32) (n : Nat) (H0 : Heap) (hP : va_P (dC, dI) vwCl (kW b v dA g tm n) H0) (htm : tm = 0 ∨ tm = 1) (hbv : b ≠ v) (hkb : k 0 ≤ b) (hkv : k 0 ≤ v) (hg : kG g) (hn : n ≤ 16) (ii : Int) (h0 : 0 ≤ ii ∧ ii < (n : Int)) (h1 : 0 ≤ g (ii).toNat ∧ g (ii).toNat < 128) : Met l yJ5_charAt_5068e ww_J5_charAt_5068e ({ frames := 2, cells := 0, slots := 0, locals := 43 }) (va_Pc [.ref b, .int (iZ ii)] (fun U => U.heap = H0 ∧ kMJ dC dI dA k U)) (kQ0 (some (.int (iZ (g (ii).toNat)))) H0) 0 0 kN := by
  refine va_MetF (cc := cJ5_charAt_5068e) (maxL := 5) (ret := (some .char)) (by decide +kernel) rfl ?_
  intro p e s m args below meth c s₁ B hml hv
  obtain ⟨rfl, hH, hM⟩ := hv
  subst hH
  have hAN : ∀ a, kAB b v s.heap.size a → k 0 ≤ a := kAB_N hkb hkv hM.1.2.1.1
  have hS : va_S (kAB b v s.heap.size) s.heap s.heap [] := va_S.rf
  have hD : va_D (kAB b v s.heap.size) ([(b, .inr (1, [.ref v, .int 0, .int tm, .int (iZ (((n : Nat) : Int)))])), (v, .inl (dA 2, 16, .inl (fun j => iZ (g j))))] : va_W) := kW_D hbv
  have hP : va_P (dC, dI) vwCl ([(b, .inr (1, [.ref v, .int 0, .int tm, .int (iZ (((n : Nat) : Int)))])), (v, .inl (dA 2, 16, .inl (fun j => iZ (g j))))] : va_W) s.heap := hP
  have hx := B.exec
  have hb := B.bytes
  have hr9 := B.returns
  have hts := atoms_spec (ws := ww_J5_charAt_5068e) B.pre
  have hown : s.vm.findClass RJ5 = some m.cls := findClass_of_methodNamed B.named
  have hlocks := B.notSynchronized
  have hl := lv_entry ([.ref b, .int (iZ ii)]) (n := 5) (Nat.le_of_ble_eq_true rfl)
  rw [lg_entry_eq]
  generalize (lg_sl ([.ref b, .int (iZ ii)]) ++ List.replicate (5 - (lg_sl ([.ref b, .int (iZ ii)])).length) Slot.unset).toArray = ls at hl ⊢
  have hl : lv_has ls 5 [(0, .ref b), (1, .int (iZ ii))] := hl
  refine lv_aload_n hx hb dJ5_charAt_5068e_0 rfl (lv_at hl 0 rfl) ?_
  refine va_get (D := (dC, dI)) (ci := 1) (v := .int 0) (C := RJ4) (T := TJ4) (N := 4) hx hb hts (fun w h => List.mem_cons_of_mem _ (gF_3_in h)) hown hM.1.1 hP 0 rfl rfl 1 (by decide) (hts _ (List.mem_cons_of_mem _ mw89)) (fun _ h9 => h9) rfl dJ5_charAt_5068e_1 ?_
  refine W.eq (g2 := F0 m 4 ls [.int (iZ 0)]) rfl ?_
  refine lv_istore_n (lv' := [(2, .int (iZ 0)), (0, .ref b), (1, .int (iZ ii))]) hx hb dJ5_charAt_5068e_4 rfl hl (by decide) rfl (fun ls hl => ?_)
  refine lv_aload_n hx hb dJ5_charAt_5068e_5 rfl (lv_at hl 1 rfl) ?_
  refine va_get (D := (dC, dI)) (ci := 1) (v := .ref v) (C := RJ4) (T := TJ4) (N := 4) hx hb hts (fun w h => List.mem_cons_of_mem _ (gF_3_in h)) hown hM.1.1 hP 0 rfl rfl 0 (by decide) (hts _ (List.mem_cons_of_mem _ mw88)) (fun _ h9 => h9) rfl dJ5_charAt_5068e_6 ?_
  refine lv_astore_n (lv' := [(3, .ref v), (2, .int (iZ 0)), (0, .ref b), (1, .int (iZ ii))]) hx hb dJ5_charAt_5068e_9 rfl hl (by decide) rfl (fun ls hl => ?_)
  refine lv_aload_n hx hb dJ5_charAt_5068e_10 rfl (lv_at hl 2 rfl) ?_
  refine va_get (D := (dC, dI)) (ci := 1) (v := .int (iZ (((n : Nat) : Int)))) (C := RJ4) (T := TJ4) (N := 4) hx hb hts (fun w h => List.mem_cons_of_mem _ (gF_3_in h)) hown hM.1.1 hP 0 rfl rfl 3 (by decide) (hts _ (List.mem_cons_of_mem _ mw92)) (fun _ h9 => h9) rfl dJ5_charAt_5068e_11 ?_
  refine lv_aload_n hx hb dJ5_charAt_5068e_14 rfl (lv_at hl 0 rfl) ?_
  refine kz_blen hx hb hM.1.1 hP 1 rfl dJ5_charAt_5068e_15 ?_
  refine W.eq (g2 := F0 m 16 ls [.int (iZ 16), .int (iZ (((n : Nat) : Int)))]) rfl ?_
  refine lv_iload_n hx hb dJ5_charAt_5068e_16 rfl (lv_at hl 1 rfl) ?_
  refine W.eq (g2 := F0 m 17 ls [.int 0, .int (iZ 16), .int (iZ (((n : Nat) : Int)))]) rfl ?_
  refine kz_ishr0 hx hb dJ5_charAt_5068e_17 ?_
  refine va_mmin hx hb (by rw [hml]; exact hl.1.symm) hown (hts _ (List.mem_cons_of_mem _ mw524)) (hts _ (List.mem_cons_of_mem _ mw293)) (hts _ (List.mem_cons_of_mem _ mw52)) (hts _ (List.mem_cons_of_mem _ mw294)) (Nat.le_of_ble_eq_true rfl) (Nat.le_of_ble_eq_true rfl) (Nat.le_of_ble_eq_true rfl) (Nat.le_of_ble_eq_true rfl) dJ5_charAt_5068e_18 ?_
  rw [kmin_row (by first | omega | (unfold mn2; (try split) <;> omega)) (by first | omega | (unfold mn2; (try split) <;> omega))]
  refine lv_istore (lv' := [(4, .int (iZ (mn2 (((n : Nat) : Int)) 16))), (3, .ref v), (2, .int (iZ 0)), (0, .ref b), (1, .int (iZ ii))]) hx hb dJ5_charAt_5068e_21 hl (by decide) rfl (fun ls hl => ?_)
  refine lv_iload_n hx hb dJ5_charAt_5068e_23 rfl (lv_at hl 4 rfl) ?_
  refine lv_iload hx hb dJ5_charAt_5068e_24 (lv_at hl 0 rfl) ?_
  refine kc0v (fun _ q => q) (va_runS (As := [.int (iZ ii), .int (iZ (mn2 (((n : Nat) : Int)) 16))]) (rest := []) ⟨hx, hb, hml, hown, hts⟩ (c_J0_checkIndex_df160 l dC dI dA k _ (ii) ((mn2 (((n : Nat) : Int)) 16)) (by unfold mn2; split <;> omega) (by unfold mn2; split <;> omega)) (va_cwS 2 hts (kg_S mw525 mw480 mw45 rfl mw481) rfl rfl rfl hdS_J0_checkIndex_df160 ⟨Nat.le_of_ble_eq_true rfl, Nat.le_of_ble_eq_true rfl⟩) ⟨fun a U g mk q => ⟨q.1, q.2.1, kMJ_call q.2.2⟩, fun U hU hW => ⟨rfl, hU, kMJ_kept hM hS hAN hU hW⟩⟩ rfl rfl hl.1 rfl (lv_room (Nat.le_of_ble_eq_true rfl)) dJ5_charAt_5068e_26 ⟨Nat.le_of_ble_eq_true rfl, Nat.le_of_ble_eq_true rfl⟩) ?_
  refine lv_iload_n hx hb dJ5_charAt_5068e_29 rfl (lv_at hl 2 rfl) ?_
  refine kz_if_ne (tgt := 42) hx hb (by first | omega | (unfold mn2; (try split) <;> omega)) dJ5_charAt_5068e_30 (by decide) (fun c_1 => absurd c_1 (by omega)) (fun c_1 => ?_)
  refine lv_aload_n hx hb dJ5_charAt_5068e_33 rfl (lv_at hl 1 rfl) ?_
  refine lv_iload_n hx hb dJ5_charAt_5068e_34 rfl (lv_at hl 4 rfl) ?_
  refine kz_bald hx hb hM.1.1 hP 1 rfl (by first | omega | (unfold mn2; (try split) <;> omega)) (by omega) dJ5_charAt_5068e_35 ?_
  refine lv_sipush (v := iZ 255) hx hb dJ5_charAt_5068e_36 rfl ?_
  refine kz_and255 hx hb (by omega) dJ5_charAt_5068e_39 ?_
  refine lv_i2c (v := iZ (g (ii).toNat)) hx hb dJ5_charAt_5068e_40 (ki2c (by omega)) ?_
  exact W.zret (v := iZ (g (ii).toNat)) (ty := .char) hx hb hr9 (by have h9 := (pk_charN (q := (g (ii).toNat).toNat) (by omega)).1; rw [nI_iZ, Int.toNat_of_nonneg (by omega)] at h9; exact h9) (fun t ht hW => ⟨congrArg (fun z : Int => Outcome.returned (some (Value.int (iZ z)))) (show (g (ii).toNat) = (g (ii).toNat) from rfl), ht⟩) (fun q h => by cases h) dJ5_charAt_5068e_41

abbrev ww_J4_charAt_5068e : List Cond := .code yJ4_charAt_5068e cJ4_charAt_5068e 2 (some .char) :: gT
set_option maxHeartbeats 4000000 in
set_option maxRecDepth 100000 in
/-- J4_charAt_5068e -/
theorem c_J4_charAt_5068e (l : Launch) (dC : Nat → ClassId) (dI : Nat → Nat → Nat) (dA : Nat → ClassId) (k : Nat → Nat) (b v : Nat) (g : Nat → Int) (tm : Int32) (n : Nat) (H0 : Heap) (hP : va_P (dC, dI) vwCl (kW b v dA g tm n) H0) (htm : tm = 0 ∨ tm = 1) (hbv : b ≠ v) (hkb : k 0 ≤ b) (hkv : k 0 ≤ v) (hg : kG g) (hn : n ≤ 16) (ii : Int) (h0 : 0 ≤ ii ∧ ii < (n : Int)) (h1 : 0 ≤ g (ii).toNat ∧ g (ii).toNat < 128) : Met l yJ4_charAt_5068e ww_J4_charAt_5068e ({ frames := 3, cells := 0, slots := 0, locals := 67 }) (va_Pc [.ref b, .int (iZ ii)] (fun U => U.heap = H0 ∧ kMJ dC dI dA k U)) (kQ0 (some (.int (iZ (g (ii).toNat)))) H0) 0 0 kN := by
  refine va_MetF (cc := cJ4_charAt_5068e) (maxL := 2) (ret := (some .char)) (by decide +kernel) rfl ?_
  intro p e s m args below meth c s₁ B hml hv
  obtain ⟨rfl, hH, hM⟩ := hv
  subst hH
  have hAN : ∀ a, kAB b v s.heap.size a → k 0 ≤ a := kAB_N hkb hkv hM.1.2.1.1
  have hS : va_S (kAB b v s.heap.size) s.heap s.heap [] := va_S.rf
  have hD : va_D (kAB b v s.heap.size) ([(b, .inr (1, [.ref v, .int 0, .int tm, .int (iZ (((n : Nat) : Int)))])), (v, .inl (dA 2, 16, .inl (fun j => iZ (g j))))] : va_W) := kW_D hbv
  have hP : va_P (dC, dI) vwCl ([(b, .inr (1, [.ref v, .int 0, .int tm, .int (iZ (((n : Nat) : Int)))])), (v, .inl (dA 2, 16, .inl (fun j => iZ (g j))))] : va_W) s.heap := hP
  have hx := B.exec
  have hb := B.bytes
  have hr9 := B.returns
  have hts := atoms_spec (ws := ww_J4_charAt_5068e) B.pre
  have hown : s.vm.findClass RJ4 = some m.cls := findClass_of_methodNamed B.named
  have hlocks := B.notSynchronized
  have hl := lv_entry ([.ref b, .int (iZ ii)]) (n := 2) (Nat.le_of_ble_eq_true rfl)
  rw [lg_entry_eq]
  generalize (lg_sl ([.ref b, .int (iZ ii)]) ++ List.replicate (2 - (lg_sl ([.ref b, .int (iZ ii)])).length) Slot.unset).toArray = ls at hl ⊢
  have hl : lv_has ls 2 [(0, .ref b), (1, .int (iZ ii))] := hl
  refine lv_aload_n hx hb dJ4_charAt_5068e_0 rfl (lv_at hl 0 rfl) ?_
  refine lv_iload_n hx hb dJ4_charAt_5068e_1 rfl (lv_at hl 1 rfl) ?_
  refine kc0 (fun _ q => q) (va_runSU (As := [.int (iZ ii)]) (rest := []) ((hM.1.1.1 1 _ rfl).2) ⟨hx, hb, hml, hown, hts⟩ (c_J5_charAt_5068e l dC dI dA k b v (g) (tm) (n) _ hP htm hbv hkb hkv hg (by omega) (ii) (by omega) (by omega)) (va_cwSU 1 hts (kg_SU mw521 mw1455 mw93 mw522 mw43 rfl mw523) rfl rfl rfl (by decide +kernel) ⟨Nat.le_of_ble_eq_true rfl, Nat.le_of_ble_eq_true rfl⟩) ⟨fun a U g mk q => ⟨q.1, q.2.1, kMJ_call q.2.2⟩, va_recv hM.1.1 hP (ci := 1) (q0 := 0) rfl rfl, fun U hU hW => ⟨rfl, hU, kMJ_kept hM hS hAN hU hW⟩⟩ rfl rfl hl.1 rfl (lv_room (Nat.le_of_ble_eq_true rfl)) dJ4_charAt_5068e_2 ⟨Nat.le_of_ble_eq_true rfl, Nat.le_of_ble_eq_true rfl⟩) ?_
  exact W.zret (v := iZ (g ((ii)).toNat)) (ty := .char) hx hb hr9 (by have h9 := (pk_charN (q := (g (ii).toNat).toNat) (by omega)).1; rw [nI_iZ, Int.toNat_of_nonneg (by omega)] at h9; exact h9) (fun t ht hW => ⟨congrArg (fun z : Int => Outcome.returned (some (Value.int (iZ z)))) (show (g ((ii)).toNat) = (g (ii).toNat) from by rfl), ht⟩) (fun q h => by cases h) dJ4_charAt_5068e_5

theorem kD1 {b sz : Nat} {e : va_E} : va_D (kA0 b sz) [(b, e)] := ⟨fun i j p q hi hj _ => by
      have h1 := (List.getElem?_eq_some_iff.mp hi).1
      have h2 := (List.getElem?_eq_some_iff.mp hj).1
      simp at h1 h2; omega, fun i q hi => by
      have h1 := (List.getElem?_eq_some_iff.mp hi).1
      have h3 : i = 0 := by simp at h1; omega
      subst h3; cases hi; exact Or.inl rfl⟩
/-- a new builder -/
def gB0 (dC : Nat → ClassId) (dI : Nat → Nat → Nat) (dA : Nat → ClassId) (b sz : Nat) (H : Heap) : Prop := ∃ v : Nat, sz ≤ v ∧ b ≠ v ∧ va_P (dC, dI) vwCl (kW b v dA (fun _ => 0) 0 0) H
abbrev ww_J5_init_d00df : List Cond := .code yJ5_init_d00df cJ5_init_d00df 2 none :: gT
set_option maxHeartbeats 4000000 in
set_option maxRecDepth 100000 in
/-- AbstractStringBuilder(16) -/
theorem c_J5_init_d00df (l : Launch) (dC : Nat → ClassId) (dI : Nat → Nat → Nat) (dA : Nat → ClassId) (k : Nat → Nat) (b : Nat) (H0 : Heap) (hP : va_P (dC, dI) vwCl [(b, .inr (1, [.null, .int 0, .int 0, .int 0]))] H0) (hkb : k 0 ≤ b) : Met l yJ5_init_d00df ww_J5_init_d00df ({ frames := 1, cells := 1, slots := 16, locals := 60 }) (va_Pc [.ref b, .int (iZ 16)] (fun U => U.heap = H0 ∧ kMJ dC dI dA k U)) (kQ2 none (gB0 dC dI dA b H0.size) (kA0 b H0.size)) 1 16 (kA0 b H0.size) := by
  refine va_MetF (cc := cJ5_init_d00df) (maxL := 2) (ret := none) (by decide +kernel) rfl ?_
  intro p e s m args below meth c s₁ B hml hv
  obtain ⟨rfl, hH, hM⟩ := hv
  subst hH
  have hD : va_D (kA0 b s.heap.size) [(b, .inr (1, [.null, .int 0, .int 0, .int 0]))] := kD1
  have hS : va_S (kA0 b s.heap.size) s.heap s.heap [] := va_S.rf
  have hAN : ∀ a, kA0 b s.heap.size a → k 0 ≤ a := fun a h => h.elim (fun z => by rw [z]; exact hkb) (fun z => Nat.le_trans hM.1.2.1.1 z)
  have hx := B.exec
  have hb := B.bytes
  have hr9 := B.returns
  have hin : meth.name = "<init>" := (name_of_methodNamed B.named B.method).1
  have hts := atoms_spec (ws := ww_J5_init_d00df) B.pre
  have hown : s.vm.findClass RJ5 = some m.cls := findClass_of_methodNamed B.named
  have hlocks := B.notSynchronized
  have hl := lv_entry ([.ref b, .int (iZ 16)]) (n := 2) (Nat.le_of_ble_eq_true rfl)
  rw [lg_entry_eq]
  generalize (lg_sl ([.ref b, .int (iZ 16)]) ++ List.replicate (2 - (lg_sl ([.ref b, .int (iZ 16)])).length) Slot.unset).toArray = ls at hl ⊢
  have hl : lv_has ls 2 [(0, .ref b), (1, .int (iZ 16))] := hl
  refine lv_aload_n hx hb dJ5_init_d00df_0 rfl (lv_at hl 0 rfl) ?_
  refine W.objInit hx hb hown (hts _ (List.mem_cons_of_mem _ mw79)) (hts _ (List.mem_cons_of_mem _ mw69)) (hts _ (List.mem_cons_of_mem _ mw70)) rfl (by rw [hml]; exact hl.1) rfl dJ5_init_d00df_1 (Nat.le_of_ble_eq_true rfl) (Nat.le_of_ble_eq_true rfl) ?_
  refine W.eq (g2 := F0 m 4 ls []) rfl ?_
  refine va_gets (v := .int 1) hx hb hM.2.1 (kSN hS hAN) hown (hts _ (List.mem_cons_of_mem _ mw80)) (fun _ h9 => h9) dJ5_init_d00df_4 ?_
  refine W.eq (g2 := F0 m 7 ls [.int (iZ 1)]) rfl ?_
  refine kz_if_eq (tgt := 25) hx hb (by omega) dJ5_init_d00df_7 (by decide) (fun c_1 => absurd c_1 (by omega)) (fun c_1 => ?_)
  refine lv_aload_n hx hb dJ5_init_d00df_10 rfl (lv_at hl 0 rfl) ?_
  refine lv_iload_n hx hb dJ5_init_d00df_11 rfl (lv_at hl 1 rfl) ?_
  refine kz_newB (N := 16) hx hb (hts _ (List.mem_cons_of_mem _ mw96)) hM.1.1 hP hD hS (fun q h => Or.inr h) (by omega) (Nat.le_of_ble_eq_true rfl) (Nat.le_of_ble_eq_true rfl) dJ5_init_d00df_12 (fun v_2 H hP hD hS => ?_)
  have hP : va_P (dC, dI) vwCl ([(b, .inr (1, [.null, .int 0, .int 0, .int 0])), (v_2, .inl (dA 2, 16, .inl (fun j => iZ ((fun _ => (0 : Int)) j))))] : va_W) _ := hP
  have hD : va_D (kA0 b s.heap.size) ([(b, .inr (1, [.null, .int 0, .int 0, .int 0])), (v_2, .inl (dA 2, 16, .inl (fun j => iZ ((fun _ => (0 : Int)) j))))] : va_W) := hD
  refine va_put (D := (dC, dI)) (ci := 1) (v := .ref v_2) (ty := .array .byte) (C := RJ4) (T := TJ4) (N := 4) hx hb hts (fun w h => List.mem_cons_of_mem _ (gF_3_in h)) tyJ4 tyJ4_ok nmJ4 hown hM.1.1 hP hD hS 0 rfl rfl 0 (by decide) (hts _ (List.mem_cons_of_mem _ mw88)) (fun _ h9 => h9) rfl (by decide +kernel) rfl rfl (Nat.le_of_ble_eq_true rfl) dJ5_init_d00df_14 (fun H locs hP hD hS => ?_)
  have hP : va_P (dC, dI) vwCl ([(b, .inr (1, [.ref v_2, .int 0, .int 0, .int 0])), (v_2, .inl (dA 2, 16, .inl (fun j => iZ ((fun _ => (0 : Int)) j))))] : va_W) _ := hP
  have hD : va_D (kA0 b s.heap.size) ([(b, .inr (1, [.ref v_2, .int 0, .int 0, .int 0])), (v_2, .inl (dA 2, 16, .inl (fun j => iZ ((fun _ => (0 : Int)) j))))] : va_W) := hD
  refine lv_aload_n hx hb dJ5_init_d00df_17 rfl (lv_at hl 0 rfl) ?_
  refine lv_iconst (v := iZ 0) hx hb dJ5_init_d00df_18 rfl ?_
  refine va_put (D := (dC, dI)) (ci := 1) (v := .int (iZ 0)) (ty := .byte) (C := RJ4) (T := TJ4) (N := 4) hx hb hts (fun w h => List.mem_cons_of_mem _ (gF_3_in h)) tyJ4 tyJ4_ok nmJ4 hown hM.1.1 hP hD hS 0 rfl rfl 1 (by decide) (hts _ (List.mem_cons_of_mem _ mw89)) (fun _ h9 => h9) rfl (by decide +kernel) rfl rfl (Nat.le_of_ble_eq_true rfl) dJ5_init_d00df_19 (fun H locs hP hD hS => ?_)
  have hP : va_P (dC, dI) vwCl ([(b, .inr (1, [.ref v_2, .int (iZ 0), .int 0, .int 0])), (v_2, .inl (dA 2, 16, .inl (fun j => iZ ((fun _ => (0 : Int)) j))))] : va_W) _ := hP
  have hD : va_D (kA0 b s.heap.size) ([(b, .inr (1, [.ref v_2, .int (iZ 0), .int 0, .int 0])), (v_2, .inl (dA 2, 16, .inl (fun j => iZ ((fun _ => (0 : Int)) j))))] : va_W) := hD
  refine lv_goto (tgt := 38) hx hb dJ5_init_d00df_22 (by decide) ?_
  have hvs : s.heap.size ≤ v_2 ∧ b ≠ v_2 := ⟨(hD.2 1 _ rfl).elim (fun z => absurd (hD.1 1 0 _ _ rfl rfl z) (by decide)) id, fun z => absurd (hD.1 0 1 _ _ rfl rfl z) (by decide)⟩
  exact W.vret hx hb hr9 (fun t ht hW => ⟨⟨rfl, v_2, hvs.1, hvs.2, by rw [ht]; exact hP⟩, hS.F ht⟩) hS.2.2 dJ5_init_d00df_38

abbrev ww_J4_init_da8c8 : List Cond := .code yJ4_init_da8c8 cJ4_init_da8c8 1 none :: gT
set_option maxHeartbeats 4000000 in
set_option maxRecDepth 100000 in
/-- StringBuilder() -/
theorem c_J4_init_da8c8 (l : Launch) (dC : Nat → ClassId) (dI : Nat → Nat → Nat) (dA : Nat → ClassId) (k : Nat → Nat) (b : Nat) (H0 : Heap) (hP : va_P (dC, dI) vwCl [(b, .inr (1, [.null, .int 0, .int 0, .int 0]))] H0) (hkb : k 0 ≤ b) : Met l yJ4_init_da8c8 ww_J4_init_da8c8 ({ frames := 2, cells := 1, slots := 16, locals := 81 }) (va_Pc [.ref b] (fun U => U.heap = H0 ∧ kMJ dC dI dA k U)) (kQ2 none (gB0 dC dI dA b H0.size) (kA0 b H0.size)) 1 16 (kA0 b H0.size) := by
  refine va_MetF (cc := cJ4_init_da8c8) (maxL := 1) (ret := none) (by decide +kernel) rfl ?_
  intro p e s m args below meth c s₁ B hml hv
  obtain ⟨rfl, hH, hM⟩ := hv
  subst hH
  have hD : va_D (kA0 b s.heap.size) [(b, .inr (1, [.null, .int 0, .int 0, .int 0]))] := kD1
  have hS : va_S (kA0 b s.heap.size) s.heap s.heap [] := va_S.rf
  have hAN : ∀ a, kA0 b s.heap.size a → k 0 ≤ a := fun a h => h.elim (fun z => by rw [z]; exact hkb) (fun z => Nat.le_trans hM.1.2.1.1 z)
  have hx := B.exec
  have hb := B.bytes
  have hr9 := B.returns
  have hin : meth.name = "<init>" := (name_of_methodNamed B.named B.method).1
  have hts := atoms_spec (ws := ww_J4_init_da8c8) B.pre
  have hown : s.vm.findClass RJ4 = some m.cls := findClass_of_methodNamed B.named
  have hlocks := B.notSynchronized
  have hl := lv_entry ([.ref b]) (n := 1) (Nat.le_of_ble_eq_true rfl)
  rw [lg_entry_eq]
  generalize (lg_sl ([.ref b]) ++ List.replicate (1 - (lg_sl ([.ref b])).length) Slot.unset).toArray = ls at hl ⊢
  have hl : lv_has ls 1 [(0, .ref b)] := hl
  refine lv_aload_n hx hb dJ4_init_da8c8_0 rfl (lv_at hl 0 rfl) ?_
  refine lv_bipush (v := iZ 16) hx hb dJ4_init_da8c8_1 rfl ?_
  refine kc2 (va_runI (As := [.int (iZ 16)]) (rest := []) ⟨hx, hb, hml, hown, hts⟩ (c_J5_init_d00df l dC dI dA k b _ hP hkb) (cwI 1 hts (kg_G rfl mw78) rfl rfl rfl (hts _ (List.mem_cons_of_mem _ mw43)) (hts _ (List.mem_cons_of_mem _ mw76)) (hts _ (List.mem_cons_of_mem _ mw77)) rfl (by decide +kernel) ⟨Nat.le_of_ble_eq_true rfl, Nat.le_of_ble_eq_true rfl⟩) ⟨fun a U g mk q => ⟨q.1, q.2.1, kMJ_call q.2.2⟩, fun U hU hW => ⟨rfl, hU, kMJ_kept hM hS hAN hU hW⟩⟩ rfl rfl hl.1 rfl (lv_room (Nat.le_of_ble_eq_true rfl)) dJ4_init_da8c8_3 ⟨Nat.le_of_ble_eq_true rfl, Nat.le_of_ble_eq_true rfl⟩) hS (fun a _ h => h.elim Or.inl (fun z => Or.inr (Nat.le_trans hS.1 z))) (fun a h => h.elim Or.inl (fun z => Or.inr (Nat.le_trans hS.1 z))) (fun H1 locs hG hz9 hk9 hS => ?_)
  obtain ⟨v9, hvs1, hvs2, hP⟩ := hG
  have hvs : s.heap.size ≤ v9 ∧ b ≠ v9 := ⟨hvs1, hvs2⟩
  exact W.vret hx hb hr9 (fun t ht hW => ⟨⟨rfl, v9, hvs.1, hvs.2, by rw [ht]; exact hP⟩, hS.F ht⟩) hS.2.2 dJ4_init_da8c8_6

