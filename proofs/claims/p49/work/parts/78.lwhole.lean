/-! THE CLAIM OUT OF ONE WALK OF THE LAW'S BODY. Your part is whole_start (and what it stands on); all else here is the same for every law, but numbers. -/
def R_law : String := "MonthyearsLaw"
def lw_P (b : Addr) (xs : List Int32) (args : Array Value) (s : State) : Prop := args = #[.ref b] ∧ s.IntsAt b xs ∧ xs.length ≤ 2560 ∧ (Jvm.Cond.and given_1 narrow_1).before args s = true
def lw_Q (_ : Array Value) (s : State) (o : Outcome) (t : State) : Prop := o = .returned (some (.int 1)) ∧ Framed s o t [] 652095 7139820
def lw_Z (below : List Frame) (a : Array Value) (s : State) : State → Prop := fun t => ∃ o, t.status = .running ∧ Ended t below o ∧ lw_Q a s o t
/-- the law's own end, with 1 on the stack, nothing written that was there before, its room as the claim has it -/
theorem lw_ret {p : Program} {l : Launch} {e : Env} {s : State} {m : MethodId} {below : List Frame} {meth : Method} {c : Code} {b : Nat} (hx : p.tables.exec = Jvm.exec) (hb : c.code = code) (hr : meth.sig.returnType = ret) (hlocks : meth.locks = false) {pc : Nat} {H : Heap} {ls : Array Slot} (hdg : decode code pc = .ok (.ireturn, 1)) : W p l e room_1 s m #[Value.ref b] below meth c H [] 652095 7139820 (lw_Z below #[Value.ref b] s) (F0 m pc ls [.int 1]) := by
  intro T hT X
  obtain ⟨fs, hret, hrun, hended, hW, hframe⟩ := X.leave (v := some (.int 1)) (hlocks := hlocks) (fun h => by rw [hr] at h; cases h)
  have hmeth' : T.vm.method? m = some meth := X.method'
  refine ⟨T.setFrames fs, ?_, .returned (some (.int 1)), hrun, hended, rfl, ⟨_, rfl⟩, hW, hframe⟩
  jvm_step X.here [X.here.top, hx, hb, hdg, hmeth', hr, ret, narrow_b1]
  (try refine ⟨rfl, ?_⟩); (try refine ⟨rfl, ?_⟩)
  first | (intro acts; rw [hret _ acts rfl rfl rfl]) | rw [hret _ _ rfl rfl rfl]
  exact Steps.refl _
/-- what holds at the law's entry: the machine, the code, the tables' words (any of lw_tbl by 'hts w (by decide +kernel)'), the script of L ints xs at the cell b, what the Statement gives of the start (any of its parts by flat_of_before) -/
def lw_At (p : Program) (s : State) (m : MethodId) (meth : Method) (c : Code) (b L : Nat) (xs : Nat → Int32) : Prop :=
  p.tables.exec = Jvm.exec ∧ c.code = code ∧ meth.sig.returnType = ret ∧ c.maxLocals = 7 ∧ s.vm.findClass R_law = some m.cls ∧ (∀ w ∈ lw_tbl, w.before #[Value.ref b] s = true) ∧ va_X b L xs s s.heap ∧ b < s.heap.size ∧ meth.locks = false ∧ (Jvm.Cond.and given_1 narrow_1).before #[Value.ref b] s = true
theorem kOK_sg0 : kOK sg0 := fun j hj => by
  rw [show sg0 0 j = 0 from rfl, show sg0 1 j = 1 from rfl, show sg0 2 j = 0 from rfl, show sg0 3 j = 1 from rfl, show sg0 4 j = 1 from rfl, show sg0 5 j = 0 from rfl, show sg0 6 j = 1 from rfl, show sg0 7 j = 1 from rfl]
  decide
set_option maxHeartbeats 4000000 in
set_option maxRecDepth 100000 in
theorem law_loop {p : Program} {l : Launch} {e : Env} {s : State} {m : MethodId} {below : List Frame} {meth : Method} {c : Code} {b L : Nat} {xs : Nat → Int32} {dC : Nat → ClassId} {dI : Nat → Nat → Nat} {dA : Nat → ClassId} {k : Nat → Nat} (hst : l.stackTraces = false) (F : kF p s m meth c b L xs dC dI dA k) {q : Nat → Nat} {m0 o : Nat} :
    ∀ (n : Nat) (i : Int) (r : Nat → Nat → Nat) (σ : Nat → Nat → Int) (th : Int) (H : Heap) (locs : List Loc) (cs ss : Nat) (ls : Array Slot), LI dC dI dA k q m0 r o σ th H → va_S (kN0 k) s.heap H locs → (0 ≤ i ∧ i + 5 * (n : Int) ≤ (L : Int) ∧ (L : Int) < i + 5 * (n : Int) + 5) → cs + 600 * n ≤ 651095 → ss + 4000 * n ≤ 7129820 → (0 ≤ σ 8 0 ∧ σ 8 0 + (n : Int) ≤ 100000) → lv_has ls 7 [(4, .int (iZ i)), (3, .ref o), (2, .ref m0), (1, .ref (q 0)), (0, .ref b)] →
      W p l e room_1 s m #[Value.ref b] below meth c H locs cs ss (lw_Z below #[Value.ref b] s) (F0 m 27 ls []) := by
  intro n
  obtain ⟨hx, hb, hr9, hml, hown, hts, hX, hbl, hL5, hMJ, hL, hk0, hlocks⟩ := id F
  induction n with
  | zero =>
    intro i r σ th H locs cs ss ls hI hS hi hcs hss h80 hl
    have hbA : ¬ kN0 k b := fun z => absurd (show k 0 ≤ b from z) (by omega)
    refine lv_iload hx hb dL_law_27 (lv_at hl 0 rfl) ?_
    refine lv_aload_n hx hb dL_law_29 rfl (lv_at hl 4 rfl) ?_
    refine va_slen hx hb hX hbl hbA hS dL_law_30 ?_
    rw [show Int32.ofNat L = iZ (L : Int) from nI_iZ L]
    refine lv_iconst (v := iZ 5) hx hb dL_law_31 rfl ?_
    refine kz_isub hx hb dL_law_32 ?_
    refine kz_icmp_gt (tgt := 3017) hx hb (by omega) (by omega) dL_law_33 (by decide) (fun c => ?_) (fun c => absurd (by omega) c)
    refine lv_iconst (v := 1) hx hb dL_law_3017 (by decide) ?_
    refine W.widen (k := 652095) (n := 7139820) (by omega) (by omega) ?_
    refine va_forget (fun z hz => by have h9 : k 0 ≤ z.base := hS.2.2 z hz; omega) ?_
    exact lw_ret hx hb hr9 hlocks dL_law_3018
  | succ n ih =>
    intro i r σ th H locs cs ss ls hI hS hi hcs hss h80 hl
    have hbA : ¬ kN0 k b := fun z => absurd (show k 0 ≤ b from z) (by omega)
    refine lv_iload hx hb dL_law_27 (lv_at hl 0 rfl) ?_
    refine lv_aload_n hx hb dL_law_29 rfl (lv_at hl 4 rfl) ?_
    refine va_slen hx hb hX hbl hbA hS dL_law_30 ?_
    rw [show Int32.ofNat L = iZ (L : Int) from nI_iZ L]
    refine lv_iconst (v := iZ 5) hx hb dL_law_31 rfl ?_
    refine kz_isub hx hb dL_law_32 ?_
    refine kz_icmp_gt (tgt := 3017) hx hb (by omega) (by omega) dL_law_33 (by decide) (fun c => absurd c (by omega)) (fun c => ?_)
    refine lv_aload_n hx hb dL_law_36 rfl (lv_at hl 4 rfl) ?_
    refine lv_iload hx hb dL_law_37 (lv_at hl 0 rfl) ?_
    refine kz_sld hx hb hX hbl hbA hS (by omega) hL5 dL_law_39 ?_
    refine lv_bipush (v := iZ 63) hx hb dL_law_40 rfl ?_
    refine kz_and63 hx hb dL_law_42 (fun v hv => ?_)
    refine law_disp v hv hst F hI hS (by omega) (by omega) (by omega) (by omega) hl (fun r' σ' th' H' locs' ls' hI' hS' h8' hl' => ?_)
    refine lv_iinc (v := iZ (i + 5)) (lv' := [(4, .int (iZ (i + 5))), (3, .ref o), (2, .ref m0), (1, .ref (q 0)), (0, .ref b)]) hx hb dL_law_3011 hl' (k := 0) rfl (iZ_add _ _) (by decide) rfl (fun ls hl => ?_)
    refine lv_goto (tgt := 27) hx hb dL_law_3014 (by decide) ?_
    exact ih (i + 5) r' σ' th' H' locs' _ _ ls hI' hS' (by omega) (by omega) (by omega) (by omega) hl
set_option maxHeartbeats 4000000 in
set_option maxRecDepth 100000 in
/-- YOUR PART: from the entry, for every script of at most 2560 ints, the law comes to its end with true ('hflags': the launch's flags, for a law that throws: no stack traces) -/
theorem whole_start {p : Program} {e : Env} {s : State} {m : MethodId} {below : List Frame} {meth : Method} {c : Code} (l : Launch) (hflags : l.flags = flags0) {b L : Nat} {xs : Nat → Int32} (hL : L ≤ 2560) (C0 : lw_At p s m meth c b L xs) : W p l e room_1 s m #[Value.ref b] below meth c s.heap [] 0 0 (lw_Z below #[Value.ref b] s) (entryFrame m ([Value.ref b] : List Value).toArray 7) := by
  obtain ⟨hx, hb, hr, hml, hown, htbl, hX, hbl, hlocks, hgv⟩ := id C0
  have hst : l.stackTraces = false := by unfold Launch.stackTraces; rw [hflags]; decide +kernel
  obtain ⟨dC, dI, dA, k, hMJ, hL9, hk0⟩ := k_start htbl hgv
  have hg := gT_hold htbl
  have hts : ∀ w ∈ ww_L, w.before #[Value.ref b] s = true := List.forall_mem_cons.mpr ⟨hg _ mw42, hg⟩
  have hM := hMJ.1
  have hN : ∀ a, kN0 k a → k 0 ≤ a := fun _ h => h
  have hF : kF p s m meth c b L xs dC dI dA k := ⟨hx, hb, hr, hml, hown, hts, hX, hbl, hL, hMJ, hL9, hk0, hlocks⟩
  have hS : va_S (kN0 k) s.heap s.heap [] := va_S.rf
  have hP : va_P (dC, dI) vwCl [] s.heap := fun k q h => by simp at h
  have hD : va_D (kN0 k) [] := ⟨fun i j p q h => by simp at h, fun k q h => by simp at h⟩
  have hl := lv_entry ([.ref b]) (n := 7) (Nat.le_of_ble_eq_true rfl)
  rw [lg_entry_eq]
  generalize (lg_sl ([.ref b]) ++ List.replicate (7 - (lg_sl ([.ref b])).length) Slot.unset).toArray = ls at hl ⊢
  have hl : lv_has ls 7 [(0, .ref b)] := hl
  refine va_new (ci := 4) (fs := [.null, .null, .null, .null, .null, .null, .null, .int 0]) (C := RX1) (T := TX1) (N := 8) hx hb hts (fun w h => List.mem_cons_of_mem _ (gF_0_in h)) tyX1 tyX1_ok hown (hts _ (List.mem_cons_of_mem _ mw63)) (hts _ (List.mem_cons_of_mem _ mw64)) (hts _ (List.mem_cons_of_mem _ mw42)) hM.1 hP hD hS (fun q h => by show k 0 ≤ q; omega) rfl (fun j hj => by rcases (show j = 0 ∨ j = 1 ∨ j = 2 ∨ j = 3 ∨ j = 4 ∨ j = 5 ∨ j = 6 ∨ j = 7 by omega) with rfl | rfl | rfl | rfl | rfl | rfl | rfl | rfl <;> rfl) (Nat.le_of_ble_eq_true rfl) (Nat.le_of_ble_eq_true rfl) dL_law_0 (fun x0 H hP hD hS => ?_)
  have hP : va_P (dC, dI) vwCl [(x0, .inr (4, [.null, .null, .null, .null, .null, .null, .null, .int 0]))] H := hP
  have hx0 : k 0 ≤ x0 := hD.2 0 _ rfl
  refine lv_dup hx hb dL_law_3 rfl ?_
  refine kc2 (va_runI (As := []) (rest := [.ref x0]) ⟨hx, hb, hml, hown, hts⟩ (c_X1_init l dC dI dA k x0 _ hP hx0) (cwI 0 hts (kg_G rfl mw67) rfl rfl rfl (hts _ (List.mem_cons_of_mem _ mw42)) (hts _ (List.mem_cons_of_mem _ mw65)) (hts _ (List.mem_cons_of_mem _ mw66)) rfl (by decide +kernel) ⟨Nat.le_of_ble_eq_true rfl, Nat.le_of_ble_eq_true rfl⟩) ⟨fun a U g mk q => ⟨q.1, q.2.1, kMJ_call q.2.2⟩, fun U hU hW => ⟨rfl, hU, kMJ_kept hMJ hS hN hU hW⟩⟩ rfl rfl hl.1 rfl (lv_room (Nat.le_of_ble_eq_true rfl)) dL_law_4 ⟨Nat.le_of_ble_eq_true rfl, Nat.le_of_ble_eq_true rfl⟩) hS (fun a _ h => by rcases h with h | h; (· rw [h]; exact hx0); (· have := hS.1; show k 0 ≤ a; omega)) (fun a h => by rcases h with h | h; (· rw [h]; exact hx0); (· have := hS.1; show k 0 ≤ a; omega)) (fun H1 locs hC hy9 hk9 hS => ?_)
  obtain ⟨q, hq0, hq, -, hG⟩ := hC
  subst hq0
  clear hP hD hk9
  generalize H1 = H at hG hS ⊢
  refine lv_astore_n (lv' := [(1, .ref (q 0)), (0, .ref b)]) hx hb dL_law_7 rfl hl (by decide) rfl (fun ls hl => ?_)
  obtain ⟨tb, tn, tm, htn, hfit, htm, hPX⟩ := id hG
  refine va_new (ci := 6) (fs := [.null, .null, .null, .null, .int 0, .int 0]) (C := RX3) (T := TX3) (N := 6) hx hb hts (fun w h => List.mem_cons_of_mem _ (gF_2_in h)) tyX3 tyX3_ok hown (hts _ (List.mem_cons_of_mem _ mw1000)) (hts _ (List.mem_cons_of_mem _ mw1001)) (hts _ (List.mem_cons_of_mem _ mw47)) hM.1 hPX (show va_D (kN0 k) (kX q dA sg0 tb (nI tn) tm) from (kX_D (sz := H.size) hq).weaken (fun _ _ _ z => kA_N hq (by have := hS.1; omega) _ z)) hS (fun q h => by show k 0 ≤ q; omega) rfl (fun j hj => by rcases (show j = 0 ∨ j = 1 ∨ j = 2 ∨ j = 3 ∨ j = 4 ∨ j = 5 by omega) with rfl | rfl | rfl | rfl | rfl | rfl <;> rfl) (Nat.le_of_ble_eq_true rfl) (Nat.le_of_ble_eq_true rfl) dL_law_8 (fun m0 H hP hD hS => ?_)
  have hG : gX dC dI dA q sg0 H := ⟨tb, tn, tm, htn, hfit, htm, va_Pl hP⟩
  have hPm : va_P (dC, dI) vwCl [(m0, .inr (6, [.null, .null, .null, .null, .int 0, .int 0]))] H := va_Pr (a := kX q dA sg0 tb (nI tn) tm) hP
  have hm0 : k 0 ≤ m0 := hD.2 9 _ rfl
  have hqm : ∀ i : Nat, i < 9 → q i ≠ m0 := fun i hi e9 => by
    have hl9 : (kX q dA sg0 tb (nI tn) tm)[i]? = some ((kX q dA sg0 tb (nI tn) tm)[i]'hi) := List.getElem?_eq_getElem hi
    obtain ⟨-, a2⟩ := kX_at hl9
    have h9 := hD.1 i 9 ((kX q dA sg0 tb (nI tn) tm)[i]'hi) _ (by rw [List.getElem?_append_left (show i < (kX q dA sg0 tb (nI tn) tm).length from hi)]; exact hl9) rfl (by rw [a2]; exact e9)
    omega
  have hql := gX_lt hG
  clear hP hD
  refine lv_dup hx hb dL_law_11 rfl ?_
  refine kc2 (va_runI (As := []) (rest := [.ref m0]) ⟨hx, hb, hml, hown, hts⟩ (c_X3_init l dC dI dA k m0 _ hPm hm0) (cwI 0 hts (kg_G rfl mw1004) rfl rfl rfl (hts _ (List.mem_cons_of_mem _ mw47)) (hts _ (List.mem_cons_of_mem _ mw1002)) (hts _ (List.mem_cons_of_mem _ mw1003)) rfl (by decide +kernel) ⟨Nat.le_of_ble_eq_true rfl, Nat.le_of_ble_eq_true rfl⟩) ⟨fun a U g mk q => ⟨q.1, q.2.1, kM_call q.2.2⟩, fun U hU hW => ⟨rfl, hU, kM_kept hM hS hN hU hW⟩⟩ rfl rfl hl.1 rfl (lv_room (Nat.le_of_ble_eq_true rfl)) dL_law_12 ⟨Nat.le_of_ble_eq_true rfl, Nat.le_of_ble_eq_true rfl⟩) hS (fun a _ h => by rcases h with h | h; (· rw [h]; exact hm0); (· have := hS.1; show k 0 ≤ a; omega)) (fun a h => by rcases h with h | h; (· rw [h]; exact hm0); (· have := hS.1; show k 0 ≤ a; omega)) (fun H1 locs hC hy9 hk9 hS => ?_)
  obtain ⟨r, hr1, hrA, hY⟩ := hC
  have hqr : ∀ i j : Nat, i < 9 → j < 17 → q i ≠ kR m0 r j := fun i j hi hj e9 => by
    have h9 := hql i hi
    rcases hrA j hj with z | z
    · exact hqm i hi (e9.trans z)
    · omega
  have hG : gX dC dI dA q sg0 H1 := gX_kept hG (fun i hi h9 => hk9 _ h9 (fun z => by rcases z with z | z; (· exact hqm i hi z); (· omega)))
  clear hk9 hql hPm
  generalize H1 = H at hG hY hS ⊢
  refine lv_astore_n (lv' := [(2, .ref m0), (1, .ref (q 0)), (0, .ref b)]) hx hb dL_law_15 rfl hl (by decide) rfl (fun ls hl => ?_)
  obtain ⟨tb, tn, tm, htn, hfit, htm, hPX⟩ := id hG
  have hDX : va_D (kN0 k) (kX q dA sg0 tb (nI tn) tm ++ kY dA m0 r sg0 0) := va_D.app ((kX_D (sz := H.size) hq).weaken (fun _ _ _ z => kA_N hq (by have := hS.1; omega) _ z)) ((kY_DD (sz := H.size) hr1).weaken (fun _ _ _ z => kAy_N hr1 (by have := hS.1; omega) _ z)) (fun i j p p2 g1 g2 e9 => by
    obtain ⟨a1, a2⟩ := kX_at g1
    obtain ⟨b1, b2⟩ := kY_at g2
    exact hqr i j a1 b1 (by rw [← a2, ← b2]; exact e9))
  refine va_new (ci := 5) (fs := [.long 0, .null]) (C := RX2) (T := TX2) (N := 2) hx hb hts (fun w h => List.mem_cons_of_mem _ (gF_1_in h)) tyX2 tyX2_ok hown (hts _ (List.mem_cons_of_mem _ mw596)) (hts _ (List.mem_cons_of_mem _ mw597)) (hts _ (List.mem_cons_of_mem _ mw48)) hM.1 (hPX.app hY) hDX hS (fun q h => by show k 0 ≤ q; omega) rfl (fun j hj => by rcases (show j = 0 ∨ j = 1 by omega) with rfl | rfl <;> rfl) (Nat.le_of_ble_eq_true rfl) (Nat.le_of_ble_eq_true rfl) dL_law_16 (fun o H hP hD hS => ?_)
  have hPo : va_P (dC, dI) vwCl [(o, .inr (5, [.long (lZ 0), .null]))] H := va_Pr (a := kX q dA sg0 tb (nI tn) tm ++ kY dA m0 r sg0 0) hP
  have hG : gX dC dI dA q sg0 H := ⟨tb, tn, tm, htn, hfit, htm, va_Pl (va_Pl hP)⟩
  have hY : va_P (dC, dI) vwCl (kY dA m0 r sg0 0) H := va_Pr (a := kX q dA sg0 tb (nI tn) tm) (va_Pl hP)
  have hko : k 0 ≤ o := hD.2 26 _ rfl
  have hqo : ∀ i : Nat, i < 9 → q i ≠ o := fun i hi e9 => by
    have hl9 : (kX q dA sg0 tb (nI tn) tm)[i]? = some ((kX q dA sg0 tb (nI tn) tm)[i]'hi) := List.getElem?_eq_getElem hi
    obtain ⟨-, a2⟩ := kX_at hl9
    have h9 := hD.1 i 26 ((kX q dA sg0 tb (nI tn) tm)[i]'hi) _ (by rw [List.append_assoc, List.getElem?_append_left (show i < (kX q dA sg0 tb (nI tn) tm).length from hi)]; exact hl9) rfl (by rw [a2]; exact e9)
    omega
  have hro : ∀ i : Nat, i < 17 → kR m0 r i ≠ o := fun i hi e9 => by
    have hl9 : (kY dA m0 r sg0 0)[i]? = some ((kY dA m0 r sg0 0)[i]'hi) := List.getElem?_eq_getElem hi
    obtain ⟨-, a2⟩ := kY_at hl9
    have h9 := hD.1 (9 + i) 26 ((kY dA m0 r sg0 0)[i]'hi) _ (by rw [List.append_assoc, List.getElem?_append_right (show (kX q dA sg0 tb (nI tn) tm).length ≤ 9 + i from Nat.le_add_right 9 i), show 9 + i - (kX q dA sg0 tb (nI tn) tm).length = i from (by show 9 + i - 9 = i; omega), List.getElem?_append_left (show i < (kY dA m0 r sg0 0).length from hi)]; exact hl9) rfl (by rw [a2]; exact e9)
    omega
  clear hP hD hDX hPX
  refine lv_dup hx hb dL_law_19 rfl ?_
  refine kc2 (va_runIN (As := []) (rest := [.ref o]) ⟨hx, hb, hml, hown, hts⟩ (c_X2_init l o _) ⟨va_cnB (host := RL) 0 hts (kg_G rfl mw599) rfl rfl rfl (va_Nw.of rfl (htbl _ (List.mem_of_getElem? (i := 787) (by decide +kernel)))) (hts _ (List.mem_cons_of_mem _ mw48)) (by decide +kernel) ⟨Nat.le_of_ble_eq_true rfl, Nat.le_of_ble_eq_true rfl⟩, rfl, (hts _ (List.mem_cons_of_mem _ mw598))⟩ ⟨fun a U g mk q => q, fun U hU hW => ⟨rfl, hU⟩⟩ rfl rfl hl.1 rfl (lv_room (Nat.le_of_ble_eq_true rfl)) dL_law_20 ⟨Nat.le_of_ble_eq_true rfl, Nat.le_of_ble_eq_true rfl⟩) hS (fun a _ h => False.elim h) (fun a h => False.elim h) (fun H1 locs hC hy9 hk9 hS9 => ?_)
  subst hC
  refine lv_astore_n (lv' := [(3, .ref o), (2, .ref m0), (1, .ref (q 0)), (0, .ref b)]) hx hb dL_law_23 rfl hl (by decide) rfl (fun ls hl => ?_)
  refine lv_iconst (v := iZ 0) hx hb dL_law_24 rfl ?_
  refine lv_istore (lv' := [(4, .int (iZ 0)), (3, .ref o), (2, .ref m0), (1, .ref (q 0)), (0, .ref b)]) hx hb dL_law_25 hl (by decide) rfl (fun ls hl => ?_)
  exact law_loop hst hF (L / 5) 0 r sg0 0 _ _ _ _ ls ⟨hG, kOK_sg0, hq, hY, hr1, ⟨0, .null, trivial, hPo⟩, hko, hqo, hro, hqr⟩ hS9 (by omega) (by omega) (by omega) (by have e9 : sg0 8 0 = 0 := rfl; omega) hl
set_option maxHeartbeats 4000000 in
theorem lw_walk (l : Launch) (hflags : l.flags = flags0) (b : Addr) (xs : List Int32) : MetFree l x (headSpec (Jvm.Cond.code x code maxLocals ret :: tables_1) room_1) (lw_P b xs) (fun _ _ _ _ _ => True) lw_Q := by
  refine MetFree.of_bodyS (code := code) (maxLocals := maxLocals) (ret := ret) (by decide) ?_ ?_
  · intro args s m h hn
    obtain ⟨meth, c, h1, h2, h3, h4, h5, h6, -, -⟩ := Cond.code_spec hn (atoms_spec (ws := Jvm.Cond.code x code maxLocals ret :: tables_1) h _ List.mem_cons_self)
    exact ⟨meth, c, h1, h2, h3, h4, h5, h6⟩
  · intro p e s m args below meth c s₁ B hml0 hP _
    obtain ⟨rfl, hx, hbd, hgv⟩ := hP
    obtain ⟨scr, harrAt, hlist, hof, hsmall⟩ := hx
    obtain ⟨hcb, hkn, -, -⟩ := State.arrayAt?_spec harrAt
    have hown : s.vm.findClass R_law = some m.cls := findClass_of_methodNamed B.named
    have hts0 : ∀ c ∈ (Jvm.Cond.code x code maxLocals ret :: tables_1), c.before #[Value.ref b] s = true := atoms_spec (ws := Jvm.Cond.code x code maxLocals ret :: tables_1) B.pre
    have hts : ∀ w ∈ lw_tbl, w.before #[Value.ref b] s = true := k2_hts_sels lw_privs (fun w hw => hts0 w (List.mem_cons_of_mem _ hw)) lw_privs_ok
    have hml : c.maxLocals = 7 := B.maxLocals_eq (hts0 _ List.mem_cons_self)
    have X₀ : Stand p l e room_1 s m #[Value.ref b] below meth c s₁ [] 0 0 := Stand.of_body B
    have hh0 : s₁.heap = s.heap := by rw [B.state]; rfl
    have hsz : scr.slots.size = xs.length := by rw [← Array.length_toList, hlist, List.length_map]
    have hval : ∀ j : Nat, j < xs.length → scr.slots[j]? = some (.int (xs.getD j 0)) := fun j hj => by
      rw [← Array.getElem?_toList, hlist]
      simp [hj]
    have hbl : b < s.heap.size := (Array.getElem?_eq_some_iff.mp hcb).1
    have hX : va_X b xs.length (fun j => xs.getD j 0) s s.heap := ⟨scr, hcb, hof, hkn, hsz, hval⟩
    have K : W p l e room_1 s m #[Value.ref b] below meth c s₁.heap [] 0 0 (lw_Z below #[Value.ref b] s) (entryFrame m ([Value.ref b] : List Value).toArray 7) := by
      rw [hh0]
      exact whole_start l hflags hbd ⟨B.exec, B.bytes, B.returns, hml, hown, hts, hX, hbl, B.notSynchronized, hgv⟩
    obtain ⟨t, a1, o, b1, b2, b3⟩ := K s₁ rfl X₀
    exact ⟨t, o, a1, b1, b2, b3⟩
theorem lw_pre_spec {args : Array Value} {s : State} (h : (Jvm.Cond.and given_1 narrow_1).before args s = true) (hr : rest_1_c.before args s = true) : ∃ (b : Addr) (xs : List Int32), lw_P b xs args s := by
  have hs := flat_of_before _ h
  have hq := flat_of_before _ hr
  have hc : (Cond.count 1).before args s = true := hs _ (by decide +kernel)
  have harr : (Cond.arrayOf (.arg 0) .int).before args s = true := hs _ (by decide +kernel)
  have hle : (Cond.le (.length (.arg 0)) (.int 2560)).before args s = true := hs _ (by decide +kernel)
  have hlen : (Cond.isInt (.length (.arg 0))).before args s = true := hq _ (by decide +kernel)
  have hall : (Cond.all (.arg 0) (.isInt (.elem (.arg 0) (.index 0)))).before args s = true := hq _ (by decide +kernel)
  obtain ⟨b, xs, hb, hx⟩ := State.ints_of_pre rfl harr hlen hall
  have hsm : xs.length < 2 ^ 31 := hx.choose_spec.2.2.2
  have hev : (Term.length (.arg 0)).eval args s none [] s = some (.int xs.length.toInt32) := hx.length_eval hb
  have hv := Cond.le_ints hev (show (Term.int 2560).eval args s none [] s = some (.int 2560) from rfl)
  have hd : xs.length.toInt32 ≤ 2560 := by
    simpa [Cond.before, Cond.holds, hv] using hle
  have hN : xs.length ≤ 2560 := (Int32.ofNat_le_ofNat hsm (by decide)).mp (show Int32.ofNat xs.length ≤ Int32.ofNat 2560 from hd)
  exact ⟨b, xs, Cond.one_arg hc (show args[0]? = some (.ref b) from hb), hx, hN, h⟩
theorem lw_comes (l : Launch) (hflags : l.flags = flags0) : Comes l x (Jvm.Cond.code x code maxLocals ret :: tables_1) room_1 (fun tb e args s => Calls_1 tb e args s ∧ rest_1 tb e args s ∧ Pre_1 tb e args s)
    (fun _ _ args s o t => lw_Q args s o t) := by
  intro p e ha hc hk s m args below hf hfit hheap happ hpre
  obtain ⟨b, xs, hP⟩ := lw_pre_spec hpre.2.2 hpre.2.1
  obtain ⟨k, o, h1, h2, h3, hQ⟩ := lw_walk l hflags b xs p e ha hc hk s m args below hf ((Spec.applies_iff_loose hf).mp happ).1 hP trivial
  exact ⟨k, o, h1, h2, h3, hQ⟩
theorem lw_frame {s t : State} {o : Outcome} {args : Array Value} (h : Framed s o t [] 652095 7139820) :
    Framed s o t (fieldLocs frame_1_writes args s ++ arrayLocs frame_1_arrays args s ++ staticLocs frame_1_statics s) 652095 7139820 := h
theorem lw_limb (L : Cond) (hL : ∀ (args : Array Value) (s t : State), L.after args s (.returned (some (.int 1))) t = true) :
    ArmFor flags0 classFile x code maxLocals ret World_1 tables_1 room_1 Calls_1 rest_1 Pre_1
      (fun tb e a s o t => postC L tb e a s o t ∧ Framed s o t (fieldLocs frame_1_writes a s ++ arrayLocs frame_1_arrays a s ++ staticLocs frame_1_statics s) 652095 7139820) := by
  intro l hflags _ _ p e ha hc hk s m args below hf hfit hheap happ hpre
  obtain ⟨k, o, h1, h2, h3, rfl, hF⟩ := lw_comes l hflags p e ha hc hk s m args below hf hfit hheap happ hpre
  exact ⟨k, _, h1, h2, h3, hL args s _, lw_frame hF⟩
theorem i_vc : Claimed_1_1 ∧ Claimed_1_2 := ⟨lw_limb limb_1_1 (fun args s t => by simp [limb_1_1, Cond.after, Cond.holds, Cond.value]), lw_limb limb_1_2 (fun args s t => Cond.after_iff.mpr (by
  first | (rw [show limb_1_2 = Cond.eq .result (.int 1) from rfl, Cond.eq_ints (x := 1) (y := 1) rfl rfl]; simp; done) | (simp [limb_1_2, Cond.value, Term.eval]; done)))⟩

