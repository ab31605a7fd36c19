set_option maxHeartbeats 4000000 in
set_option maxRecDepth 100000 in
theorem lc_28 {p : Program} {l : Launch} {e : Env} {s : State} {m : MethodId} {below : List Frame} {meth : Method} {c : Code} {Q : State → Prop} {b L : Nat} {xs : Nat → Int32} {dC : Nat → ClassId} {dI : Nat → Nat → Nat} {dA : Nat → ClassId} {k : Nat → Nat} (hst : l.stackTraces = false) (F : kF p s m meth c b L xs dC dI dA k)
    {q : Nat → Nat} {m0 : Nat} {r : Nat → Nat → Nat} {o : Nat} {σ : Nat → Nat → Int} {th : Int} {H : Heap} {locs : List Loc} {cs ss : Nat} {i : Int} {ls : Array Slot} (hI : LI dC dI dA k q m0 r o σ th H) (hS : va_S (kN0 k) s.heap H locs) (hi : 0 ≤ i ∧ i + 5 ≤ (L : Int)) (hcs : cs + 600 ≤ 652095) (hss : ss + 4000 ≤ 7139820) (h80 : 0 ≤ σ 8 0 ∧ σ 8 0 ≤ 100000) (hl : lv_has ls 7 [(4, .int (iZ i)), (3, .ref o), (2, .ref m0), (1, .ref (q 0)), (0, .ref b)])
    (kk : ∀ (r' : Nat → Nat → Nat) (σ' : Nat → Nat → Int) (th' : Int) (H' : Heap) (locs' : List Loc) (ls' : Array Slot), LI dC dI dA k q m0 r' o σ' th' H' → va_S (kN0 k) s.heap H' locs' → σ 8 0 ≤ σ' 8 0 ∧ σ' 8 0 ≤ σ 8 0 + 1 → lv_has ls' 7 [(4, .int (iZ i)), (3, .ref o), (2, .ref m0), (1, .ref (q 0)), (0, .ref b)] → W p l e room_1 s m #[Value.ref b] below meth c H' locs' (cs + 600) (ss + 4000) Q (F0 m 3011 ls' [])) :
    W p l e room_1 s m #[Value.ref b] below meth c H locs cs ss Q (F0 m 43 ls [.int (iZ 28)]) := by
  obtain ⟨hx, hb, hr9, hml, hown, hts, hX, hbl, hL5, hMJ, hL, hk0, hlocks⟩ := F
  obtain ⟨hG, hOK, hq, hY, hr, hO0, hko, ho9, h1, h2⟩ := id hI
  obtain ⟨sn, sv, -, hO⟩ := id hO0
  have hM := hMJ.1
  have hbA : ¬ kN0 k b := fun z => absurd (show k 0 ≤ b from z) (by omega)
  have hN : ∀ a, kN0 k a → k 0 ≤ a := fun _ h => h
  have hkH : k 0 ≤ H.size := by have := hS.1; omega
  refine lv_tableIn (tgt := 1804) (off := 1761) hx hb dL_law_43 (by rw [iZ_toInt (z := 28) (by omega)]; omega) (by rw [iZ_toInt (z := 28) (by omega)]; omega) (by rw [iZ_toInt (z := 28) (by omega)]; rfl) (by decide) ?_
  refine lv_aload_n hx hb dL_law_1804 rfl (lv_at hl 3 rfl) ?_
  refine lv_aload_n hx hb dL_law_1805 rfl (lv_at hl 4 rfl) ?_
  refine lv_iload hx hb dL_law_1806 (lv_at hl 0 rfl) ?_
  refine lv_iconst (v := iZ 1) hx hb dL_law_1808 rfl ?_
  refine kz_iadd hx hb dL_law_1809 ?_
  refine kz_sld hx hb hX hbl hbA hS (by omega) hL5 dL_law_1810 ?_
  refine lv_aload_n hx hb dL_law_1811 rfl (lv_at hl 4 rfl) ?_
  refine lv_iload hx hb dL_law_1812 (lv_at hl 0 rfl) ?_
  refine lv_iconst (v := iZ 2) hx hb dL_law_1814 rfl ?_
  refine kz_iadd hx hb dL_law_1815 ?_
  refine kz_sld hx hb hX hbl hbA hS (by omega) hL5 dL_law_1816 ?_
  refine lv_aload_n hx hb dL_law_1817 rfl (lv_at hl 4 rfl) ?_
  refine lv_iload hx hb dL_law_1818 (lv_at hl 0 rfl) ?_
  refine lv_iconst (v := iZ 3) hx hb dL_law_1820 rfl ?_
  refine kz_iadd hx hb dL_law_1821 ?_
  refine kz_sld hx hb hX hbl hbA hS (by omega) hL5 dL_law_1822 ?_
  refine lv_aload_n hx hb dL_law_1823 rfl (lv_at hl 1 rfl) ?_
  refine kc2 (vx_runSW (As := [.ref (q 0), .int (iZ (fx xs (i + 1))), .int (iZ (fx xs (i + 2))), .int (iZ (fx xs (i + 3))), .ref o]) (rest := []) ⟨hx, hb, hml, hown, hts⟩ (c_L_dayOfFeast l hst dC dI dA k q σ _ hG hOK hq o sn sv hO hko ho9 ((fx xs (i + 1))) ((fx xs (i + 2))) ((fx xs (i + 3))) (fx_rng _ _) (fx_rng _ _) (fx_rng _ _)) (vx_cwSW 5 hts (kg_S mw857 mw858 mw41 rfl mw859) rfl rfl rfl hdS_L_dayOfFeast ⟨Nat.le_of_ble_eq_true rfl, Nat.le_of_ble_eq_true rfl⟩) ⟨fun a U g mk q => ⟨q.1, q.2.1, kMJ_call q.2.2.1, kL_call q.2.2.2⟩, fun U hU hW => ⟨rfl, hU, kMJ_kept hMJ hS hN hU hW, kL_warm hL hW⟩⟩ rfl rfl hl.1 rfl (lv_room (Nat.le_of_ble_eq_true rfl)) dL_law_1824 ⟨kroomC (by omega), kroomS (by omega)⟩) hS (fun a _ h => kAO_N hq hko hkH a h) (fun a h => kAO_N hq hko hkH a h) (fun H1 locs hC hy9 hk9 hS => ?_)
  obtain ⟨hG1, hO1⟩ := hC
  have hY1 := kY_keptO hY hk9 h1 h2
  have h8 : kOK8 σ (if ex2 (!inb (fx xs (i + 1)) 0 3 || !inb (fx xs (i + 2)) 0 3) (!inb (fx xs (i + 3)) (-999999999) 999999999) = 0 then (setD σ ((fx xs (i + 1)).toNat) (fx xs (i + 3)) (σ 3 ((fx xs (i + 2)).toNat)) (dayIn σ ((fx xs (i + 2)).toNat) (fx xs (i + 3)))) else σ) := k8_if hOK (fun h9 => k8m_dayOfFeast hOK ((fx xs (i + 1))) ((fx xs (i + 2))) ((fx xs (i + 3))) h9)
  have hkH1 : k 0 ≤ H1.size := Nat.le_trans hkH hy9
  clear hk9
  refine lv_istore (lv' := [(5, .int (iZ (ex2 (!inb (fx xs (i + 1)) 0 3 || !inb (fx xs (i + 2)) 0 3) (!inb (fx xs (i + 3)) (-999999999) 999999999)))), (4, .int (iZ i)), (3, .ref o), (2, .ref m0), (1, .ref (q 0)), (0, .ref b)]) hx hb dL_law_1827 hl (by decide) rfl (fun ls hl => ?_)
  refine lv_aload_n hx hb dL_law_1829 rfl (lv_at hl 3 rfl) ?_
  refine lv_aload_n hx hb dL_law_1830 rfl (lv_at hl 5 rfl) ?_
  refine lv_iload hx hb dL_law_1831 (lv_at hl 1 rfl) ?_
  refine lv_iconst (v := iZ 1) hx hb dL_law_1833 rfl ?_
  refine kz_iadd hx hb dL_law_1834 ?_
  refine kz_sld hx hb hX hbl hbA hS (by omega) hL5 dL_law_1835 ?_
  refine lv_aload_n hx hb dL_law_1836 rfl (lv_at hl 5 rfl) ?_
  refine lv_iload hx hb dL_law_1837 (lv_at hl 1 rfl) ?_
  refine lv_iconst (v := iZ 2) hx hb dL_law_1839 rfl ?_
  refine kz_iadd hx hb dL_law_1840 ?_
  refine kz_sld hx hb hX hbl hbA hS (by omega) hL5 dL_law_1841 ?_
  refine lv_aload_n hx hb dL_law_1842 rfl (lv_at hl 5 rfl) ?_
  refine lv_iload hx hb dL_law_1843 (lv_at hl 1 rfl) ?_
  refine lv_iconst (v := iZ 3) hx hb dL_law_1845 rfl ?_
  refine kz_iadd hx hb dL_law_1846 ?_
  refine kz_sld hx hb hX hbl hbA hS (by omega) hL5 dL_law_1847 ?_
  refine kc2 (va_runV (As := [.int (iZ (fx xs (i + 1))), .int (iZ (fx xs (i + 2))), .int (iZ (fx xs (i + 3)))]) (rest := []) ⟨hx, hb, hml, hown, hts⟩ (c_X3_dayOfFeast l dC dI dA k m0 r σ th _ hY1 hr hOK ((fx xs (i + 1))) ((fx xs (i + 2))) ((fx xs (i + 3))) (fx_rng _ _) (fx_rng _ _) (fx_rng _ _)) (cwV 3 hts (kg_V mw1236 mw1237 mw1238 mw47 rfl mw1239) rfl rfl rfl hdV_X3_dayOfFeast ⟨Nat.le_of_ble_eq_true rfl, Nat.le_of_ble_eq_true rfl⟩) ⟨fun a U g mk q => ⟨q.1, q.2.1, kM_call q.2.2⟩, va_recv hM.1 hY1 (ci := 6) (q0 := 0) rfl rfl, fun U hU hW => ⟨rfl, hU, kM_kept hM hS hN hU hW⟩⟩ rfl rfl hl.1 rfl (lv_room (Nat.le_of_ble_eq_true rfl)) dL_law_1848 ⟨kroomC (by omega), kroomS (by omega)⟩) hS (fun a _ h => kAy_N hr hkH1 a h) (fun a h => kAy_N hr hkH1 a h) (fun H2 locs hC2 hy8 hk8 hS => ?_)
  obtain ⟨r2, hI2, hO2⟩ := LI_step hI hG1 hO1 hC2 hk8 h8
  refine lv_istore (lv' := [(6, .int (iZ (if ex2 (!inb (fx xs (i + 1)) 0 3 || !inb (fx xs (i + 2)) 0 3) (!inb (fx xs (i + 3)) (-999999999) 999999999) = 0 then (1 + (dnum (fx xs (i + 3)) (σ 3 ((fx xs (i + 2)).toNat)) (dayIn σ ((fx xs (i + 2)).toNat) (fx xs (i + 3))) + 3) % 7) else 0))), (5, .int (iZ (ex2 (!inb (fx xs (i + 1)) 0 3 || !inb (fx xs (i + 2)) 0 3) (!inb (fx xs (i + 3)) (-999999999) 999999999)))), (4, .int (iZ i)), (3, .ref o), (2, .ref m0), (1, .ref (q 0)), (0, .ref b)]) hx hb dL_law_1851 hl (by decide) rfl (fun ls hl => ?_)
  refine lv_goto (tgt := 3011) hx hb dL_law_1853 (by decide) ?_
  refine W.widen (k := cs + 600) (n := ss + 4000) (by omega) (by omega) ?_
  exact kk r2 _ _ _ _ _ hI2 hS (by have h9 := h8.2; omega) (lv_sub hl [2, 3, 4, 5, 6] rfl)

set_option maxHeartbeats 4000000 in
set_option maxRecDepth 100000 in
theorem lc_29 {p : Program} {l : Launch} {e : Env} {s : State} {m : MethodId} {below : List Frame} {meth : Method} {c : Code} {Q : State → Prop} {b L : Nat} {xs : Nat → Int32} {dC : Nat → ClassId} {dI : Nat → Nat → Nat} {dA : Nat → ClassId} {k : Nat → Nat} (hst : l.stackTraces = false) (F : kF p s m meth c b L xs dC dI dA k)
    {q : Nat → Nat} {m0 : Nat} {r : Nat → Nat → Nat} {o : Nat} {σ : Nat → Nat → Int} {th : Int} {H : Heap} {locs : List Loc} {cs ss : Nat} {i : Int} {ls : Array Slot} (hI : LI dC dI dA k q m0 r o σ th H) (hS : va_S (kN0 k) s.heap H locs) (hi : 0 ≤ i ∧ i + 5 ≤ (L : Int)) (hcs : cs + 600 ≤ 652095) (hss : ss + 4000 ≤ 7139820) (h80 : 0 ≤ σ 8 0 ∧ σ 8 0 ≤ 100000) (hl : lv_has ls 7 [(4, .int (iZ i)), (3, .ref o), (2, .ref m0), (1, .ref (q 0)), (0, .ref b)])
    (kk : ∀ (r' : Nat → Nat → Nat) (σ' : Nat → Nat → Int) (th' : Int) (H' : Heap) (locs' : List Loc) (ls' : Array Slot), LI dC dI dA k q m0 r' o σ' th' H' → va_S (kN0 k) s.heap H' locs' → σ 8 0 ≤ σ' 8 0 ∧ σ' 8 0 ≤ σ 8 0 + 1 → lv_has ls' 7 [(4, .int (iZ i)), (3, .ref o), (2, .ref m0), (1, .ref (q 0)), (0, .ref b)] → W p l e room_1 s m #[Value.ref b] below meth c H' locs' (cs + 600) (ss + 4000) Q (F0 m 3011 ls' [])) :
    W p l e room_1 s m #[Value.ref b] below meth c H locs cs ss Q (F0 m 43 ls [.int (iZ 29)]) := by
  obtain ⟨hx, hb, hr9, hml, hown, hts, hX, hbl, hL5, hMJ, hL, hk0, hlocks⟩ := F
  obtain ⟨hG, hOK, hq, hY, hr, hO0, hko, ho9, h1, h2⟩ := id hI
  obtain ⟨sn, sv, -, hO⟩ := id hO0
  have hM := hMJ.1
  have hbA : ¬ kN0 k b := fun z => absurd (show k 0 ≤ b from z) (by omega)
  have hN : ∀ a, kN0 k a → k 0 ≤ a := fun _ h => h
  have hkH : k 0 ≤ H.size := by have := hS.1; omega
  refine lv_tableIn (tgt := 1856) (off := 1813) hx hb dL_law_43 (by rw [iZ_toInt (z := 29) (by omega)]; omega) (by rw [iZ_toInt (z := 29) (by omega)]; omega) (by rw [iZ_toInt (z := 29) (by omega)]; rfl) (by decide) ?_
  refine lv_aload_n hx hb dL_law_1856 rfl (lv_at hl 3 rfl) ?_
  refine lv_aload_n hx hb dL_law_1857 rfl (lv_at hl 4 rfl) ?_
  refine lv_iload hx hb dL_law_1858 (lv_at hl 0 rfl) ?_
  refine lv_iconst (v := iZ 1) hx hb dL_law_1860 rfl ?_
  refine kz_iadd hx hb dL_law_1861 ?_
  refine kz_sld hx hb hX hbl hbA hS (by omega) hL5 dL_law_1862 ?_
  refine lv_aload_n hx hb dL_law_1863 rfl (lv_at hl 4 rfl) ?_
  refine lv_iload hx hb dL_law_1864 (lv_at hl 0 rfl) ?_
  refine lv_iconst (v := iZ 2) hx hb dL_law_1866 rfl ?_
  refine kz_iadd hx hb dL_law_1867 ?_
  refine kz_sld hx hb hX hbl hbA hS (by omega) hL5 dL_law_1868 ?_
  refine lv_aload_n hx hb dL_law_1869 rfl (lv_at hl 4 rfl) ?_
  refine lv_iload hx hb dL_law_1870 (lv_at hl 0 rfl) ?_
  refine lv_iconst (v := iZ 3) hx hb dL_law_1872 rfl ?_
  refine kz_iadd hx hb dL_law_1873 ?_
  refine kz_sld hx hb hX hbl hbA hS (by omega) hL5 dL_law_1874 ?_
  refine lv_aload_n hx hb dL_law_1875 rfl (lv_at hl 1 rfl) ?_
  refine kc2 (vx_runSW (As := [.ref (q 0), .int (iZ (fx xs (i + 1))), .int (iZ (fx xs (i + 2))), .int (iZ (fx xs (i + 3))), .ref o]) (rest := []) ⟨hx, hb, hml, hown, hts⟩ (c_L_dayOfYear l hst dC dI dA k q σ _ hG hOK hq o sn sv hO hko ho9 ((fx xs (i + 1))) ((fx xs (i + 2))) ((fx xs (i + 3))) (fx_rng _ _) (fx_rng _ _) (fx_rng _ _)) (vx_cwSW 5 hts (kg_S mw867 mw868 mw41 rfl mw869) rfl rfl rfl hdS_L_dayOfYear ⟨Nat.le_of_ble_eq_true rfl, Nat.le_of_ble_eq_true rfl⟩) ⟨fun a U g mk q => ⟨q.1, q.2.1, kMJ_call q.2.2.1, kL_call q.2.2.2⟩, fun U hU hW => ⟨rfl, hU, kMJ_kept hMJ hS hN hU hW, kL_warm hL hW⟩⟩ rfl rfl hl.1 rfl (lv_room (Nat.le_of_ble_eq_true rfl)) dL_law_1876 ⟨kroomC (by omega), kroomS (by omega)⟩) hS (fun a _ h => kAO_N hq hko hkH a h) (fun a h => kAO_N hq hko hkH a h) (fun H1 locs hC hy9 hk9 hS => ?_)
  obtain ⟨hG1, hO1⟩ := hC
  have hY1 := kY_keptO hY hk9 h1 h2
  have h8 : kOK8 σ (if ex2 ((!inb (fx xs (i + 1)) 0 3 || !inb (fx xs (i + 2)) 0 3) || !inb (fx xs (i + 3)) 0 3) (false) = 0 then (setD σ ((fx xs (i + 1)).toNat) (σ 2 ((fx xs (i + 2)).toNat)) (σ 3 ((fx xs (i + 3)).toNat)) (dayIn σ ((fx xs (i + 3)).toNat) (σ 2 ((fx xs (i + 2)).toNat)))) else σ) := k8_if hOK (fun h9 => k8m_dayOfYear hOK ((fx xs (i + 1))) ((fx xs (i + 2))) ((fx xs (i + 3))) h9)
  have hkH1 : k 0 ≤ H1.size := Nat.le_trans hkH hy9
  clear hk9
  refine lv_istore (lv' := [(5, .int (iZ (ex2 ((!inb (fx xs (i + 1)) 0 3 || !inb (fx xs (i + 2)) 0 3) || !inb (fx xs (i + 3)) 0 3) (false)))), (4, .int (iZ i)), (3, .ref o), (2, .ref m0), (1, .ref (q 0)), (0, .ref b)]) hx hb dL_law_1879 hl (by decide) rfl (fun ls hl => ?_)
  refine lv_aload_n hx hb dL_law_1881 rfl (lv_at hl 3 rfl) ?_
  refine lv_aload_n hx hb dL_law_1882 rfl (lv_at hl 5 rfl) ?_
  refine lv_iload hx hb dL_law_1883 (lv_at hl 1 rfl) ?_
  refine lv_iconst (v := iZ 1) hx hb dL_law_1885 rfl ?_
  refine kz_iadd hx hb dL_law_1886 ?_
  refine kz_sld hx hb hX hbl hbA hS (by omega) hL5 dL_law_1887 ?_
  refine lv_aload_n hx hb dL_law_1888 rfl (lv_at hl 5 rfl) ?_
  refine lv_iload hx hb dL_law_1889 (lv_at hl 1 rfl) ?_
  refine lv_iconst (v := iZ 2) hx hb dL_law_1891 rfl ?_
  refine kz_iadd hx hb dL_law_1892 ?_
  refine kz_sld hx hb hX hbl hbA hS (by omega) hL5 dL_law_1893 ?_
  refine lv_aload_n hx hb dL_law_1894 rfl (lv_at hl 5 rfl) ?_
  refine lv_iload hx hb dL_law_1895 (lv_at hl 1 rfl) ?_
  refine lv_iconst (v := iZ 3) hx hb dL_law_1897 rfl ?_
  refine kz_iadd hx hb dL_law_1898 ?_
  refine kz_sld hx hb hX hbl hbA hS (by omega) hL5 dL_law_1899 ?_
  refine kc2 (va_runV (As := [.int (iZ (fx xs (i + 1))), .int (iZ (fx xs (i + 2))), .int (iZ (fx xs (i + 3)))]) (rest := []) ⟨hx, hb, hml, hown, hts⟩ (c_X3_dayOfYear l dC dI dA k m0 r σ th _ hY1 hr hOK ((fx xs (i + 1))) ((fx xs (i + 2))) ((fx xs (i + 3))) (fx_rng _ _) (fx_rng _ _) (fx_rng _ _)) (cwV 3 hts (kg_V mw1246 mw1247 mw1248 mw47 rfl mw1249) rfl rfl rfl hdV_X3_dayOfYear ⟨Nat.le_of_ble_eq_true rfl, Nat.le_of_ble_eq_true rfl⟩) ⟨fun a U g mk q => ⟨q.1, q.2.1, kM_call q.2.2⟩, va_recv hM.1 hY1 (ci := 6) (q0 := 0) rfl rfl, fun U hU hW => ⟨rfl, hU, kM_kept hM hS hN hU hW⟩⟩ rfl rfl hl.1 rfl (lv_room (Nat.le_of_ble_eq_true rfl)) dL_law_1900 ⟨kroomC (by omega), kroomS (by omega)⟩) hS (fun a _ h => kAy_N hr hkH1 a h) (fun a h => kAy_N hr hkH1 a h) (fun H2 locs hC2 hy8 hk8 hS => ?_)
  obtain ⟨r2, hI2, hO2⟩ := LI_step hI hG1 hO1 hC2 hk8 h8
  refine lv_istore (lv' := [(6, .int (iZ (if ex2 ((!inb (fx xs (i + 1)) 0 3 || !inb (fx xs (i + 2)) 0 3) || !inb (fx xs (i + 3)) 0 3) (false) = 0 then (dayIn σ ((fx xs (i + 3)).toNat) (σ 2 ((fx xs (i + 2)).toNat))) else 0))), (5, .int (iZ (ex2 ((!inb (fx xs (i + 1)) 0 3 || !inb (fx xs (i + 2)) 0 3) || !inb (fx xs (i + 3)) 0 3) (false)))), (4, .int (iZ i)), (3, .ref o), (2, .ref m0), (1, .ref (q 0)), (0, .ref b)]) hx hb dL_law_1903 hl (by decide) rfl (fun ls hl => ?_)
  refine lv_goto (tgt := 3011) hx hb dL_law_1905 (by decide) ?_
  refine W.widen (k := cs + 600) (n := ss + 4000) (by omega) (by omega) ?_
  exact kk r2 _ _ _ _ _ hI2 hS (by have h9 := h8.2; omega) (lv_sub hl [2, 3, 4, 5, 6] rfl)

set_option maxHeartbeats 4000000 in
set_option maxRecDepth 100000 in
theorem lc_30 {p : Program} {l : Launch} {e : Env} {s : State} {m : MethodId} {below : List Frame} {meth : Method} {c : Code} {Q : State → Prop} {b L : Nat} {xs : Nat → Int32} {dC : Nat → ClassId} {dI : Nat → Nat → Nat} {dA : Nat → ClassId} {k : Nat → Nat} (hst : l.stackTraces = false) (F : kF p s m meth c b L xs dC dI dA k)
    {q : Nat → Nat} {m0 : Nat} {r : Nat → Nat → Nat} {o : Nat} {σ : Nat → Nat → Int} {th : Int} {H : Heap} {locs : List Loc} {cs ss : Nat} {i : Int} {ls : Array Slot} (hI : LI dC dI dA k q m0 r o σ th H) (hS : va_S (kN0 k) s.heap H locs) (hi : 0 ≤ i ∧ i + 5 ≤ (L : Int)) (hcs : cs + 600 ≤ 652095) (hss : ss + 4000 ≤ 7139820) (h80 : 0 ≤ σ 8 0 ∧ σ 8 0 ≤ 100000) (hl : lv_has ls 7 [(4, .int (iZ i)), (3, .ref o), (2, .ref m0), (1, .ref (q 0)), (0, .ref b)])
    (kk : ∀ (r' : Nat → Nat → Nat) (σ' : Nat → Nat → Int) (th' : Int) (H' : Heap) (locs' : List Loc) (ls' : Array Slot), LI dC dI dA k q m0 r' o σ' th' H' → va_S (kN0 k) s.heap H' locs' → σ 8 0 ≤ σ' 8 0 ∧ σ' 8 0 ≤ σ 8 0 + 1 → lv_has ls' 7 [(4, .int (iZ i)), (3, .ref o), (2, .ref m0), (1, .ref (q 0)), (0, .ref b)] → W p l e room_1 s m #[Value.ref b] below meth c H' locs' (cs + 600) (ss + 4000) Q (F0 m 3011 ls' [])) :
    W p l e room_1 s m #[Value.ref b] below meth c H locs cs ss Q (F0 m 43 ls [.int (iZ 30)]) := by
  obtain ⟨hx, hb, hr9, hml, hown, hts, hX, hbl, hL5, hMJ, hL, hk0, hlocks⟩ := F
  obtain ⟨hG, hOK, hq, hY, hr, hO0, hko, ho9, h1, h2⟩ := id hI
  obtain ⟨sn, sv, -, hO⟩ := id hO0
  have hM := hMJ.1
  have hbA : ¬ kN0 k b := fun z => absurd (show k 0 ≤ b from z) (by omega)
  have hN : ∀ a, kN0 k a → k 0 ≤ a := fun _ h => h
  have hkH : k 0 ≤ H.size := by have := hS.1; omega
  refine lv_tableIn (tgt := 1908) (off := 1865) hx hb dL_law_43 (by rw [iZ_toInt (z := 30) (by omega)]; omega) (by rw [iZ_toInt (z := 30) (by omega)]; omega) (by rw [iZ_toInt (z := 30) (by omega)]; rfl) (by decide) ?_
  refine lv_aload_n hx hb dL_law_1908 rfl (lv_at hl 3 rfl) ?_
  refine lv_aload_n hx hb dL_law_1909 rfl (lv_at hl 4 rfl) ?_
  refine lv_iload hx hb dL_law_1910 (lv_at hl 0 rfl) ?_
  refine lv_iconst (v := iZ 1) hx hb dL_law_1912 rfl ?_
  refine kz_iadd hx hb dL_law_1913 ?_
  refine kz_sld hx hb hX hbl hbA hS (by omega) hL5 dL_law_1914 ?_
  refine lv_aload_n hx hb dL_law_1915 rfl (lv_at hl 4 rfl) ?_
  refine lv_iload hx hb dL_law_1916 (lv_at hl 0 rfl) ?_
  refine lv_iconst (v := iZ 2) hx hb dL_law_1918 rfl ?_
  refine kz_iadd hx hb dL_law_1919 ?_
  refine kz_sld hx hb hX hbl hbA hS (by omega) hL5 dL_law_1920 ?_
  refine lv_aload_n hx hb dL_law_1921 rfl (lv_at hl 1 rfl) ?_
  refine kc2 (vx_runSW (As := [.ref (q 0), .int (iZ (fx xs (i + 1))), .int (iZ (fx xs (i + 2))), .ref o]) (rest := []) ⟨hx, hb, hml, hown, hts⟩ (c_L_ofLeaf l hst dC dI dA k q σ _ hG hOK hq o sn sv hO hko ho9 ((fx xs (i + 1))) ((fx xs (i + 2))) (fx_rng _ _) (fx_rng _ _)) (vx_cwSW 4 hts (kg_S mw874 mw875 mw41 rfl mw876) rfl rfl rfl hdS_L_ofLeaf ⟨Nat.le_of_ble_eq_true rfl, Nat.le_of_ble_eq_true rfl⟩) ⟨fun a U g mk q => ⟨q.1, q.2.1, kMJ_call q.2.2.1, kL_call q.2.2.2⟩, fun U hU hW => ⟨rfl, hU, kMJ_kept hMJ hS hN hU hW, kL_warm hL hW⟩⟩ rfl rfl hl.1 rfl (lv_room (Nat.le_of_ble_eq_true rfl)) dL_law_1922 ⟨kroomC (by omega), kroomS (by omega)⟩) hS (fun a _ h => kAO_N hq hko hkH a h) (fun a h => kAO_N hq hko hkH a h) (fun H1 locs hC hy9 hk9 hS => ?_)
  obtain ⟨hG1, hO1⟩ := hC
  have hY1 := kY_keptO hY hk9 h1 h2
  have hG1 := gX_cast hG1 (kif_same _)
  have h8 : kOK8 σ σ := ⟨hOK, rfl⟩
  have hkH1 : k 0 ≤ H1.size := Nat.le_trans hkH hy9
  clear hk9
  refine lv_istore (lv' := [(5, .int (iZ (ex2 (!inb (fx xs (i + 1)) 0 3) (!inb (fx xs (i + 2)) 0 7)))), (4, .int (iZ i)), (3, .ref o), (2, .ref m0), (1, .ref (q 0)), (0, .ref b)]) hx hb dL_law_1925 hl (by decide) rfl (fun ls hl => ?_)
  refine lv_aload_n hx hb dL_law_1927 rfl (lv_at hl 3 rfl) ?_
  refine lv_aload_n hx hb dL_law_1928 rfl (lv_at hl 5 rfl) ?_
  refine lv_iload hx hb dL_law_1929 (lv_at hl 1 rfl) ?_
  refine lv_iconst (v := iZ 1) hx hb dL_law_1931 rfl ?_
  refine kz_iadd hx hb dL_law_1932 ?_
  refine kz_sld hx hb hX hbl hbA hS (by omega) hL5 dL_law_1933 ?_
  refine lv_aload_n hx hb dL_law_1934 rfl (lv_at hl 5 rfl) ?_
  refine lv_iload hx hb dL_law_1935 (lv_at hl 1 rfl) ?_
  refine lv_iconst (v := iZ 2) hx hb dL_law_1937 rfl ?_
  refine kz_iadd hx hb dL_law_1938 ?_
  refine kz_sld hx hb hX hbl hbA hS (by omega) hL5 dL_law_1939 ?_
  refine kc2 (va_runV (As := [.int (iZ (fx xs (i + 1))), .int (iZ (fx xs (i + 2)))]) (rest := []) ⟨hx, hb, hml, hown, hts⟩ (c_X3_ofLeaf l dC dI dA k m0 r σ th _ hY1 hr hOK ((fx xs (i + 1))) ((fx xs (i + 2))) (fx_rng _ _) (fx_rng _ _)) (cwV 2 hts (kg_V mw1250 mw1251 mw1252 mw47 rfl mw1253) rfl rfl rfl hdV_X3_ofLeaf ⟨Nat.le_of_ble_eq_true rfl, Nat.le_of_ble_eq_true rfl⟩) ⟨fun a U g mk q => ⟨q.1, q.2.1, kM_call q.2.2⟩, va_recv hM.1 hY1 (ci := 6) (q0 := 0) rfl rfl, fun U hU hW => ⟨rfl, hU, kM_kept hM hS hN hU hW⟩⟩ rfl rfl hl.1 rfl (lv_room (Nat.le_of_ble_eq_true rfl)) dL_law_1940 ⟨kroomC (by omega), kroomS (by omega)⟩) hS (fun a _ h => kAy_N hr hkH1 a h) (fun a h => kAy_N hr hkH1 a h) (fun H2 locs hC2 hy8 hk8 hS => ?_)
  obtain ⟨r2, hI2, hO2⟩ := LI_step hI hG1 hO1 hC2 hk8 h8
  refine lv_istore (lv' := [(6, .int (iZ (if ex2 (!inb (fx xs (i + 1)) 0 3) (!inb (fx xs (i + 2)) 0 7) = 0 then (ofL σ ((fx xs (i + 1)).toNat) (fx xs (i + 2))) else 0))), (5, .int (iZ (ex2 (!inb (fx xs (i + 1)) 0 3) (!inb (fx xs (i + 2)) 0 7)))), (4, .int (iZ i)), (3, .ref o), (2, .ref m0), (1, .ref (q 0)), (0, .ref b)]) hx hb dL_law_1943 hl (by decide) rfl (fun ls hl => ?_)
  refine lv_goto (tgt := 3011) hx hb dL_law_1945 (by decide) ?_
  refine W.widen (k := cs + 600) (n := ss + 4000) (by omega) (by omega) ?_
  exact kk r2 _ _ _ _ _ hI2 hS (by have h9 := h8.2; omega) (lv_sub hl [2, 3, 4, 5, 6] rfl)

set_option maxHeartbeats 4000000 in
set_option maxRecDepth 100000 in
theorem lc_31 {p : Program} {l : Launch} {e : Env} {s : State} {m : MethodId} {below : List Frame} {meth : Method} {c : Code} {Q : State → Prop} {b L : Nat} {xs : Nat → Int32} {dC : Nat → ClassId} {dI : Nat → Nat → Nat} {dA : Nat → ClassId} {k : Nat → Nat} (hst : l.stackTraces = false) (F : kF p s m meth c b L xs dC dI dA k)
    {q : Nat → Nat} {m0 : Nat} {r : Nat → Nat → Nat} {o : Nat} {σ : Nat → Nat → Int} {th : Int} {H : Heap} {locs : List Loc} {cs ss : Nat} {i : Int} {ls : Array Slot} (hI : LI dC dI dA k q m0 r o σ th H) (hS : va_S (kN0 k) s.heap H locs) (hi : 0 ≤ i ∧ i + 5 ≤ (L : Int)) (hcs : cs + 600 ≤ 652095) (hss : ss + 4000 ≤ 7139820) (h80 : 0 ≤ σ 8 0 ∧ σ 8 0 ≤ 100000) (hl : lv_has ls 7 [(4, .int (iZ i)), (3, .ref o), (2, .ref m0), (1, .ref (q 0)), (0, .ref b)])
    (kk : ∀ (r' : Nat → Nat → Nat) (σ' : Nat → Nat → Int) (th' : Int) (H' : Heap) (locs' : List Loc) (ls' : Array Slot), LI dC dI dA k q m0 r' o σ' th' H' → va_S (kN0 k) s.heap H' locs' → σ 8 0 ≤ σ' 8 0 ∧ σ' 8 0 ≤ σ 8 0 + 1 → lv_has ls' 7 [(4, .int (iZ i)), (3, .ref o), (2, .ref m0), (1, .ref (q 0)), (0, .ref b)] → W p l e room_1 s m #[Value.ref b] below meth c H' locs' (cs + 600) (ss + 4000) Q (F0 m 3011 ls' [])) :
    W p l e room_1 s m #[Value.ref b] below meth c H locs cs ss Q (F0 m 43 ls [.int (iZ 31)]) := by
  obtain ⟨hx, hb, hr9, hml, hown, hts, hX, hbl, hL5, hMJ, hL, hk0, hlocks⟩ := F
  obtain ⟨hG, hOK, hq, hY, hr, hO0, hko, ho9, h1, h2⟩ := id hI
  obtain ⟨sn, sv, -, hO⟩ := id hO0
  have hM := hMJ.1
  have hbA : ¬ kN0 k b := fun z => absurd (show k 0 ≤ b from z) (by omega)
  have hN : ∀ a, kN0 k a → k 0 ≤ a := fun _ h => h
  have hkH : k 0 ≤ H.size := by have := hS.1; omega
  refine lv_tableIn (tgt := 1948) (off := 1905) hx hb dL_law_43 (by rw [iZ_toInt (z := 31) (by omega)]; omega) (by rw [iZ_toInt (z := 31) (by omega)]; omega) (by rw [iZ_toInt (z := 31) (by omega)]; rfl) (by decide) ?_
  refine lv_aload_n hx hb dL_law_1948 rfl (lv_at hl 3 rfl) ?_
  refine lv_aload_n hx hb dL_law_1949 rfl (lv_at hl 4 rfl) ?_
  refine lv_iload hx hb dL_law_1950 (lv_at hl 0 rfl) ?_
  refine lv_iconst (v := iZ 1) hx hb dL_law_1952 rfl ?_
  refine kz_iadd hx hb dL_law_1953 ?_
  refine kz_sld hx hb hX hbl hbA hS (by omega) hL5 dL_law_1954 ?_
  refine lv_aload_n hx hb dL_law_1955 rfl (lv_at hl 1 rfl) ?_
  refine kc2 (vx_runSW (As := [.ref (q 0), .int (iZ (fx xs (i + 1))), .ref o]) (rest := []) ⟨hx, hb, hml, hown, hts⟩ (c_L_count l hst dC dI dA k q σ _ hG hOK hq o sn sv hO hko ho9 ((fx xs (i + 1))) (fx_rng _ _)) (vx_cwSW 3 hts (kg_S mw878 mw879 mw41 rfl mw880) rfl rfl rfl hdS_L_count ⟨Nat.le_of_ble_eq_true rfl, Nat.le_of_ble_eq_true rfl⟩) ⟨fun a U g mk q => ⟨q.1, q.2.1, kMJ_call q.2.2.1, kL_call q.2.2.2⟩, fun U hU hW => ⟨rfl, hU, kMJ_kept hMJ hS hN hU hW, kL_warm hL hW⟩⟩ rfl rfl hl.1 rfl (lv_room (Nat.le_of_ble_eq_true rfl)) dL_law_1956 ⟨kroomC (by omega), kroomS (by omega)⟩) hS (fun a _ h => kAO_N hq hko hkH a h) (fun a h => kAO_N hq hko hkH a h) (fun H1 locs hC hy9 hk9 hS => ?_)
  obtain ⟨hG1, hO1⟩ := hC
  have hY1 := kY_keptO hY hk9 h1 h2
  have hG1 := gX_cast hG1 (kif_same _)
  have h8 : kOK8 σ σ := ⟨hOK, rfl⟩
  have hkH1 : k 0 ≤ H1.size := Nat.le_trans hkH hy9
  clear hk9
  refine lv_istore (lv' := [(5, .int (iZ (ex2 (!inb (fx xs (i + 1)) 0 3) (false)))), (4, .int (iZ i)), (3, .ref o), (2, .ref m0), (1, .ref (q 0)), (0, .ref b)]) hx hb dL_law_1959 hl (by decide) rfl (fun ls hl => ?_)
  refine lv_aload_n hx hb dL_law_1961 rfl (lv_at hl 3 rfl) ?_
  refine lv_aload_n hx hb dL_law_1962 rfl (lv_at hl 5 rfl) ?_
  refine lv_iload hx hb dL_law_1963 (lv_at hl 1 rfl) ?_
  refine lv_iconst (v := iZ 1) hx hb dL_law_1965 rfl ?_
  refine kz_iadd hx hb dL_law_1966 ?_
  refine kz_sld hx hb hX hbl hbA hS (by omega) hL5 dL_law_1967 ?_
  refine kc2r (va_runV (As := [.int (iZ (fx xs (i + 1)))]) (rest := []) ⟨hx, hb, hml, hown, hts⟩ (c_X3_count l dC dI dA k m0 r σ th _ hY1 hr hOK ((fx xs (i + 1))) (fx_rng _ _)) (cwV 1 hts (kg_V mw1258 mw1259 mw1260 mw47 rfl mw1261) rfl rfl rfl hdV_X3_count ⟨Nat.le_of_ble_eq_true rfl, Nat.le_of_ble_eq_true rfl⟩) ⟨fun a U g mk q => ⟨q.1, q.2.1, kMJ_call q.2.2⟩, va_recv hM.1 hY1 (ci := 6) (q0 := 0) rfl rfl, fun U hU hW => ⟨rfl, hU, kMJ_kept hMJ hS hN hU hW⟩⟩ rfl rfl hl.1 rfl (lv_room (Nat.le_of_ble_eq_true rfl)) dL_law_1968 ⟨kroomC (by omega), kroomS (by omega)⟩) hS (fun a _ h => kAy_N hr hkH1 a h) (fun a h => kAy_N hr hkH1 a h) (fun x9 H2 locs hC2 hy8 hk8 hS => ?_)
  obtain ⟨hC2, hT2⟩ := hC2
  have hC2 := gY_id (sz := H1.size) hr hC2
  obtain ⟨r2, hI2, -⟩ := LI_step hI hG1 (gOS_O hO1) hC2 hk8 h8
  have hO2 := gOS_step hI hO1 hk8
  refine lv_astore (lv' := [(6, .ref x9), (5, .int (iZ (ex2 (!inb (fx xs (i + 1)) 0 3) (false)))), (4, .int (iZ i)), (3, .ref o), (2, .ref m0), (1, .ref (q 0)), (0, .ref b)]) hx hb dL_law_1971 hl (by decide) rfl (fun ls hl => ?_)
  refine lv_goto (tgt := 3011) hx hb dL_law_1973 (by decide) ?_
  refine W.widen (k := cs + 600) (n := ss + 4000) (by omega) (by omega) ?_
  exact kk r2 _ _ _ _ _ hI2 hS (by have h9 := h8.2; omega) (lv_sub hl [2, 3, 4, 5, 6] rfl)

set_option maxHeartbeats 4000000 in
set_option maxRecDepth 100000 in
theorem lc_32 {p : Program} {l : Launch} {e : Env} {s : State} {m : MethodId} {below : List Frame} {meth : Method} {c : Code} {Q : State → Prop} {b L : Nat} {xs : Nat → Int32} {dC : Nat → ClassId} {dI : Nat → Nat → Nat} {dA : Nat → ClassId} {k : Nat → Nat} (hst : l.stackTraces = false) (F : kF p s m meth c b L xs dC dI dA k)
    {q : Nat → Nat} {m0 : Nat} {r : Nat → Nat → Nat} {o : Nat} {σ : Nat → Nat → Int} {th : Int} {H : Heap} {locs : List Loc} {cs ss : Nat} {i : Int} {ls : Array Slot} (hI : LI dC dI dA k q m0 r o σ th H) (hS : va_S (kN0 k) s.heap H locs) (hi : 0 ≤ i ∧ i + 5 ≤ (L : Int)) (hcs : cs + 600 ≤ 652095) (hss : ss + 4000 ≤ 7139820) (h80 : 0 ≤ σ 8 0 ∧ σ 8 0 ≤ 100000) (hl : lv_has ls 7 [(4, .int (iZ i)), (3, .ref o), (2, .ref m0), (1, .ref (q 0)), (0, .ref b)])
    (kk : ∀ (r' : Nat → Nat → Nat) (σ' : Nat → Nat → Int) (th' : Int) (H' : Heap) (locs' : List Loc) (ls' : Array Slot), LI dC dI dA k q m0 r' o σ' th' H' → va_S (kN0 k) s.heap H' locs' → σ 8 0 ≤ σ' 8 0 ∧ σ' 8 0 ≤ σ 8 0 + 1 → lv_has ls' 7 [(4, .int (iZ i)), (3, .ref o), (2, .ref m0), (1, .ref (q 0)), (0, .ref b)] → W p l e room_1 s m #[Value.ref b] below meth c H' locs' (cs + 600) (ss + 4000) Q (F0 m 3011 ls' [])) :
    W p l e room_1 s m #[Value.ref b] below meth c H locs cs ss Q (F0 m 43 ls [.int (iZ 32)]) := by
  obtain ⟨hx, hb, hr9, hml, hown, hts, hX, hbl, hL5, hMJ, hL, hk0, hlocks⟩ := F
  obtain ⟨hG, hOK, hq, hY, hr, hO0, hko, ho9, h1, h2⟩ := id hI
  obtain ⟨sn, sv, -, hO⟩ := id hO0
  have hM := hMJ.1
  have hbA : ¬ kN0 k b := fun z => absurd (show k 0 ≤ b from z) (by omega)
  have hN : ∀ a, kN0 k a → k 0 ≤ a := fun _ h => h
  have hkH : k 0 ≤ H.size := by have := hS.1; omega
  refine lv_tableIn (tgt := 1976) (off := 1933) hx hb dL_law_43 (by rw [iZ_toInt (z := 32) (by omega)]; omega) (by rw [iZ_toInt (z := 32) (by omega)]; omega) (by rw [iZ_toInt (z := 32) (by omega)]; rfl) (by decide) ?_
  refine lv_aload_n hx hb dL_law_1976 rfl (lv_at hl 3 rfl) ?_
  refine lv_aload_n hx hb dL_law_1977 rfl (lv_at hl 4 rfl) ?_
  refine lv_iload hx hb dL_law_1978 (lv_at hl 0 rfl) ?_
  refine lv_iconst (v := iZ 1) hx hb dL_law_1980 rfl ?_
  refine kz_iadd hx hb dL_law_1981 ?_
  refine kz_sld hx hb hX hbl hbA hS (by omega) hL5 dL_law_1982 ?_
  refine lv_aload_n hx hb dL_law_1983 rfl (lv_at hl 4 rfl) ?_
  refine lv_iload hx hb dL_law_1984 (lv_at hl 0 rfl) ?_
  refine lv_iconst (v := iZ 2) hx hb dL_law_1986 rfl ?_
  refine kz_iadd hx hb dL_law_1987 ?_
  refine kz_sld hx hb hX hbl hbA hS (by omega) hL5 dL_law_1988 ?_
  refine lv_aload_n hx hb dL_law_1989 rfl (lv_at hl 1 rfl) ?_
  refine kc2 (vx_runSW (As := [.ref (q 0), .int (iZ (fx xs (i + 1))), .int (iZ (fx xs (i + 2))), .ref o]) (rest := []) ⟨hx, hb, hml, hown, hts⟩ (c_L_hasDay l hst dC dI dA k q σ _ hG hOK hq o sn sv hO hko ho9 ((fx xs (i + 1))) ((fx xs (i + 2))) (fx_rng _ _) (fx_rng _ _)) (vx_cwSW 4 hts (kg_S mw889 mw890 mw41 rfl mw891) rfl rfl rfl hdS_L_hasDay ⟨Nat.le_of_ble_eq_true rfl, Nat.le_of_ble_eq_true rfl⟩) ⟨fun a U g mk q => ⟨q.1, q.2.1, kMJ_call q.2.2.1, kL_call q.2.2.2⟩, fun U hU hW => ⟨rfl, hU, kMJ_kept hMJ hS hN hU hW, kL_warm hL hW⟩⟩ rfl rfl hl.1 rfl (lv_room (Nat.le_of_ble_eq_true rfl)) dL_law_1990 ⟨kroomC (by omega), kroomS (by omega)⟩) hS (fun a _ h => kAO_N hq hko hkH a h) (fun a h => kAO_N hq hko hkH a h) (fun H1 locs hC hy9 hk9 hS => ?_)
  obtain ⟨hG1, hO1⟩ := hC
  have hY1 := kY_keptO hY hk9 h1 h2
  have hG1 := gX_cast hG1 (kif_same _)
  have h8 : kOK8 σ σ := ⟨hOK, rfl⟩
  have hkH1 : k 0 ≤ H1.size := Nat.le_trans hkH hy9
  clear hk9
  refine lv_istore (lv' := [(5, .int (iZ (ex2 (!inb (fx xs (i + 1)) 0 3) (false)))), (4, .int (iZ i)), (3, .ref o), (2, .ref m0), (1, .ref (q 0)), (0, .ref b)]) hx hb dL_law_1993 hl (by decide) rfl (fun ls hl => ?_)
  refine lv_aload_n hx hb dL_law_1995 rfl (lv_at hl 3 rfl) ?_
  refine lv_aload_n hx hb dL_law_1996 rfl (lv_at hl 5 rfl) ?_
  refine lv_iload hx hb dL_law_1997 (lv_at hl 1 rfl) ?_
  refine lv_iconst (v := iZ 1) hx hb dL_law_1999 rfl ?_
  refine kz_iadd hx hb dL_law_2000 ?_
  refine kz_sld hx hb hX hbl hbA hS (by omega) hL5 dL_law_2001 ?_
  refine lv_aload_n hx hb dL_law_2002 rfl (lv_at hl 5 rfl) ?_
  refine lv_iload hx hb dL_law_2003 (lv_at hl 1 rfl) ?_
  refine lv_iconst (v := iZ 2) hx hb dL_law_2005 rfl ?_
  refine kz_iadd hx hb dL_law_2006 ?_
  refine kz_sld hx hb hX hbl hbA hS (by omega) hL5 dL_law_2007 ?_
  refine kc2 (va_runV (As := [.int (iZ (fx xs (i + 1))), .int (iZ (fx xs (i + 2)))]) (rest := []) ⟨hx, hb, hml, hown, hts⟩ (c_X3_hasDay l dC dI dA k m0 r σ th _ hY1 hr hOK ((fx xs (i + 1))) ((fx xs (i + 2))) (fx_rng _ _) (fx_rng _ _)) (cwV 2 hts (kg_V mw1293 mw1294 mw1295 mw47 rfl mw1296) rfl rfl rfl hdV_X3_hasDay ⟨Nat.le_of_ble_eq_true rfl, Nat.le_of_ble_eq_true rfl⟩) ⟨fun a U g mk q => ⟨q.1, q.2.1, kM_call q.2.2⟩, va_recv hM.1 hY1 (ci := 6) (q0 := 0) rfl rfl, fun U hU hW => ⟨rfl, hU, kM_kept hM hS hN hU hW⟩⟩ rfl rfl hl.1 rfl (lv_room (Nat.le_of_ble_eq_true rfl)) dL_law_2008 ⟨kroomC (by omega), kroomS (by omega)⟩) hS (fun a _ h => kAy_N hr hkH1 a h) (fun a h => kAy_N hr hkH1 a h) (fun H2 locs hC2 hy8 hk8 hS => ?_)
  obtain ⟨r2, hI2, hO2⟩ := LI_step hI hG1 hO1 hC2 hk8 h8
  refine lv_istore (lv' := [(6, .int (iZ (bZ (decide (ex2 (!inb (fx xs (i + 1)) 0 3) (false) = 0) && (decide (1 ≤ (fx xs (i + 2)) ∧ (fx xs (i + 2)) ≤ mlen (leap (σ 0 ((fx xs (i + 1)).toNat))) (σ 1 ((fx xs (i + 1)).toNat)))))))), (5, .int (iZ (ex2 (!inb (fx xs (i + 1)) 0 3) (false)))), (4, .int (iZ i)), (3, .ref o), (2, .ref m0), (1, .ref (q 0)), (0, .ref b)]) hx hb dL_law_2011 hl (by decide) rfl (fun ls hl => ?_)
  refine lv_goto (tgt := 3011) hx hb dL_law_2013 (by decide) ?_
  refine W.widen (k := cs + 600) (n := ss + 4000) (by omega) (by omega) ?_
  exact kk r2 _ _ _ _ _ hI2 hS (by have h9 := h8.2; omega) (lv_sub hl [2, 3, 4, 5, 6] rfl)

set_option maxHeartbeats 4000000 in
set_option maxRecDepth 100000 in
theorem lc_33 {p : Program} {l : Launch} {e : Env} {s : State} {m : MethodId} {below : List Frame} {meth : Method} {c : Code} {Q : State → Prop} {b L : Nat} {xs : Nat → Int32} {dC : Nat → ClassId} {dI : Nat → Nat → Nat} {dA : Nat → ClassId} {k : Nat → Nat} (hst : l.stackTraces = false) (F : kF p s m meth c b L xs dC dI dA k)
    {q : Nat → Nat} {m0 : Nat} {r : Nat → Nat → Nat} {o : Nat} {σ : Nat → Nat → Int} {th : Int} {H : Heap} {locs : List Loc} {cs ss : Nat} {i : Int} {ls : Array Slot} (hI : LI dC dI dA k q m0 r o σ th H) (hS : va_S (kN0 k) s.heap H locs) (hi : 0 ≤ i ∧ i + 5 ≤ (L : Int)) (hcs : cs + 600 ≤ 652095) (hss : ss + 4000 ≤ 7139820) (h80 : 0 ≤ σ 8 0 ∧ σ 8 0 ≤ 100000) (hl : lv_has ls 7 [(4, .int (iZ i)), (3, .ref o), (2, .ref m0), (1, .ref (q 0)), (0, .ref b)])
    (kk : ∀ (r' : Nat → Nat → Nat) (σ' : Nat → Nat → Int) (th' : Int) (H' : Heap) (locs' : List Loc) (ls' : Array Slot), LI dC dI dA k q m0 r' o σ' th' H' → va_S (kN0 k) s.heap H' locs' → σ 8 0 ≤ σ' 8 0 ∧ σ' 8 0 ≤ σ 8 0 + 1 → lv_has ls' 7 [(4, .int (iZ i)), (3, .ref o), (2, .ref m0), (1, .ref (q 0)), (0, .ref b)] → W p l e room_1 s m #[Value.ref b] below meth c H' locs' (cs + 600) (ss + 4000) Q (F0 m 3011 ls' [])) :
    W p l e room_1 s m #[Value.ref b] below meth c H locs cs ss Q (F0 m 43 ls [.int (iZ 33)]) := by
  obtain ⟨hx, hb, hr9, hml, hown, hts, hX, hbl, hL5, hMJ, hL, hk0, hlocks⟩ := F
  obtain ⟨hG, hOK, hq, hY, hr, hO0, hko, ho9, h1, h2⟩ := id hI
  obtain ⟨sn, sv, -, hO⟩ := id hO0
  have hM := hMJ.1
  have hbA : ¬ kN0 k b := fun z => absurd (show k 0 ≤ b from z) (by omega)
  have hN : ∀ a, kN0 k a → k 0 ≤ a := fun _ h => h
  have hkH : k 0 ≤ H.size := by have := hS.1; omega
  refine lv_tableIn (tgt := 2016) (off := 1973) hx hb dL_law_43 (by rw [iZ_toInt (z := 33) (by omega)]; omega) (by rw [iZ_toInt (z := 33) (by omega)]; omega) (by rw [iZ_toInt (z := 33) (by omega)]; rfl) (by decide) ?_
  refine lv_aload_n hx hb dL_law_2016 rfl (lv_at hl 3 rfl) ?_
  refine lv_aload_n hx hb dL_law_2017 rfl (lv_at hl 4 rfl) ?_
  refine lv_iload hx hb dL_law_2018 (lv_at hl 0 rfl) ?_
  refine lv_iconst (v := iZ 1) hx hb dL_law_2020 rfl ?_
  refine kz_iadd hx hb dL_law_2021 ?_
  refine kz_sld hx hb hX hbl hbA hS (by omega) hL5 dL_law_2022 ?_
  refine lv_aload_n hx hb dL_law_2023 rfl (lv_at hl 4 rfl) ?_
  refine lv_iload hx hb dL_law_2024 (lv_at hl 0 rfl) ?_
  refine lv_iconst (v := iZ 2) hx hb dL_law_2026 rfl ?_
  refine kz_iadd hx hb dL_law_2027 ?_
  refine kz_sld hx hb hX hbl hbA hS (by omega) hL5 dL_law_2028 ?_
  refine lv_aload_n hx hb dL_law_2029 rfl (lv_at hl 4 rfl) ?_
  refine lv_iload hx hb dL_law_2030 (lv_at hl 0 rfl) ?_
  refine lv_iconst (v := iZ 3) hx hb dL_law_2032 rfl ?_
  refine kz_iadd hx hb dL_law_2033 ?_
  refine kz_sld hx hb hX hbl hbA hS (by omega) hL5 dL_law_2034 ?_
  refine lv_aload_n hx hb dL_law_2035 rfl (lv_at hl 1 rfl) ?_
  refine kc2 (vx_runSW (As := [.ref (q 0), .int (iZ (fx xs (i + 1))), .int (iZ (fx xs (i + 2))), .int (iZ (fx xs (i + 3))), .ref o]) (rest := []) ⟨hx, hb, hml, hown, hts⟩ (c_L_leafOrder l hst dC dI dA k q σ _ hG hOK hq o sn sv hO hko ho9 ((fx xs (i + 1))) ((fx xs (i + 2))) ((fx xs (i + 3))) (fx_rng _ _) (fx_rng _ _) (fx_rng _ _)) (vx_cwSW 5 hts (kg_S mw896 mw897 mw41 rfl mw898) rfl rfl rfl hdS_L_leafOrder ⟨Nat.le_of_ble_eq_true rfl, Nat.le_of_ble_eq_true rfl⟩) ⟨fun a U g mk q => ⟨q.1, q.2.1, kMJ_call q.2.2.1, kL_call q.2.2.2⟩, fun U hU hW => ⟨rfl, hU, kMJ_kept hMJ hS hN hU hW, kL_warm hL hW⟩⟩ rfl rfl hl.1 rfl (lv_room (Nat.le_of_ble_eq_true rfl)) dL_law_2036 ⟨kroomC (by omega), kroomS (by omega)⟩) hS (fun a _ h => kAO_N hq hko hkH a h) (fun a h => kAO_N hq hko hkH a h) (fun H1 locs hC hy9 hk9 hS => ?_)
  obtain ⟨hG1, hO1⟩ := hC
  have hY1 := kY_keptO hY hk9 h1 h2
  have hG1 := gX_cast hG1 (kif_same _)
  have h8 : kOK8 σ σ := ⟨hOK, rfl⟩
  have hkH1 : k 0 ≤ H1.size := Nat.le_trans hkH hy9
  clear hk9
  refine lv_istore (lv' := [(5, .int (iZ (ex2 (!inb (fx xs (i + 1)) 0 3 || !inb (fx xs (i + 2)) 0 3) (!inb (fx xs (i + 3)) 0 2)))), (4, .int (iZ i)), (3, .ref o), (2, .ref m0), (1, .ref (q 0)), (0, .ref b)]) hx hb dL_law_2039 hl (by decide) rfl (fun ls hl => ?_)
  refine lv_aload_n hx hb dL_law_2041 rfl (lv_at hl 3 rfl) ?_
  refine lv_aload_n hx hb dL_law_2042 rfl (lv_at hl 5 rfl) ?_
  refine lv_iload hx hb dL_law_2043 (lv_at hl 1 rfl) ?_
  refine lv_iconst (v := iZ 1) hx hb dL_law_2045 rfl ?_
  refine kz_iadd hx hb dL_law_2046 ?_
  refine kz_sld hx hb hX hbl hbA hS (by omega) hL5 dL_law_2047 ?_
  refine lv_aload_n hx hb dL_law_2048 rfl (lv_at hl 5 rfl) ?_
  refine lv_iload hx hb dL_law_2049 (lv_at hl 1 rfl) ?_
  refine lv_iconst (v := iZ 2) hx hb dL_law_2051 rfl ?_
  refine kz_iadd hx hb dL_law_2052 ?_
  refine kz_sld hx hb hX hbl hbA hS (by omega) hL5 dL_law_2053 ?_
  refine lv_aload_n hx hb dL_law_2054 rfl (lv_at hl 5 rfl) ?_
  refine lv_iload hx hb dL_law_2055 (lv_at hl 1 rfl) ?_
  refine lv_iconst (v := iZ 3) hx hb dL_law_2057 rfl ?_
  refine kz_iadd hx hb dL_law_2058 ?_
  refine kz_sld hx hb hX hbl hbA hS (by omega) hL5 dL_law_2059 ?_
  refine kc2 (va_runV (As := [.int (iZ (fx xs (i + 1))), .int (iZ (fx xs (i + 2))), .int (iZ (fx xs (i + 3)))]) (rest := []) ⟨hx, hb, hml, hown, hts⟩ (c_X3_leafOrder l dC dI dA k m0 r σ th _ hY1 hr hOK ((fx xs (i + 1))) ((fx xs (i + 2))) ((fx xs (i + 3))) (fx_rng _ _) (fx_rng _ _) (fx_rng _ _)) (cwV 3 hts (kg_V mw1297 mw1298 mw1299 mw47 rfl mw1300) rfl rfl rfl hdV_X3_leafOrder ⟨Nat.le_of_ble_eq_true rfl, Nat.le_of_ble_eq_true rfl⟩) ⟨fun a U g mk q => ⟨q.1, q.2.1, kM_call q.2.2⟩, va_recv hM.1 hY1 (ci := 6) (q0 := 0) rfl rfl, fun U hU hW => ⟨rfl, hU, kM_kept hM hS hN hU hW⟩⟩ rfl rfl hl.1 rfl (lv_room (Nat.le_of_ble_eq_true rfl)) dL_law_2060 ⟨kroomC (by omega), kroomS (by omega)⟩) hS (fun a _ h => kAy_N hr hkH1 a h) (fun a h => kAy_N hr hkH1 a h) (fun H2 locs hC2 hy8 hk8 hS => ?_)
  obtain ⟨r2, hI2, hO2⟩ := LI_step hI hG1 hO1 hC2 hk8 h8
  refine lv_istore (lv' := [(6, .int (iZ (if ex2 (!inb (fx xs (i + 1)) 0 3 || !inb (fx xs (i + 2)) 0 3) (!inb (fx xs (i + 3)) 0 2) = 0 then (ordT (cnt (σ 0 ((fx xs (i + 1)).toNat)) (σ 1 ((fx xs (i + 1)).toNat))) (cnt (σ 0 ((fx xs (i + 2)).toNat)) (σ 1 ((fx xs (i + 2)).toNat))) (fx xs (i + 3))) else 0))), (5, .int (iZ (ex2 (!inb (fx xs (i + 1)) 0 3 || !inb (fx xs (i + 2)) 0 3) (!inb (fx xs (i + 3)) 0 2)))), (4, .int (iZ i)), (3, .ref o), (2, .ref m0), (1, .ref (q 0)), (0, .ref b)]) hx hb dL_law_2063 hl (by decide) rfl (fun ls hl => ?_)
  refine lv_goto (tgt := 3011) hx hb dL_law_2065 (by decide) ?_
  refine W.widen (k := cs + 600) (n := ss + 4000) (by omega) (by omega) ?_
  exact kk r2 _ _ _ _ _ hI2 hS (by have h9 := h8.2; omega) (lv_sub hl [2, 3, 4, 5, 6] rfl)

set_option maxHeartbeats 4000000 in
set_option maxRecDepth 100000 in
theorem lc_34 {p : Program} {l : Launch} {e : Env} {s : State} {m : MethodId} {below : List Frame} {meth : Method} {c : Code} {Q : State → Prop} {b L : Nat} {xs : Nat → Int32} {dC : Nat → ClassId} {dI : Nat → Nat → Nat} {dA : Nat → ClassId} {k : Nat → Nat} (hst : l.stackTraces = false) (F : kF p s m meth c b L xs dC dI dA k)
    {q : Nat → Nat} {m0 : Nat} {r : Nat → Nat → Nat} {o : Nat} {σ : Nat → Nat → Int} {th : Int} {H : Heap} {locs : List Loc} {cs ss : Nat} {i : Int} {ls : Array Slot} (hI : LI dC dI dA k q m0 r o σ th H) (hS : va_S (kN0 k) s.heap H locs) (hi : 0 ≤ i ∧ i + 5 ≤ (L : Int)) (hcs : cs + 600 ≤ 652095) (hss : ss + 4000 ≤ 7139820) (h80 : 0 ≤ σ 8 0 ∧ σ 8 0 ≤ 100000) (hl : lv_has ls 7 [(4, .int (iZ i)), (3, .ref o), (2, .ref m0), (1, .ref (q 0)), (0, .ref b)])
    (kk : ∀ (r' : Nat → Nat → Nat) (σ' : Nat → Nat → Int) (th' : Int) (H' : Heap) (locs' : List Loc) (ls' : Array Slot), LI dC dI dA k q m0 r' o σ' th' H' → va_S (kN0 k) s.heap H' locs' → σ 8 0 ≤ σ' 8 0 ∧ σ' 8 0 ≤ σ 8 0 + 1 → lv_has ls' 7 [(4, .int (iZ i)), (3, .ref o), (2, .ref m0), (1, .ref (q 0)), (0, .ref b)] → W p l e room_1 s m #[Value.ref b] below meth c H' locs' (cs + 600) (ss + 4000) Q (F0 m 3011 ls' [])) :
    W p l e room_1 s m #[Value.ref b] below meth c H locs cs ss Q (F0 m 43 ls [.int (iZ 34)]) := by
  obtain ⟨hx, hb, hr9, hml, hown, hts, hX, hbl, hL5, hMJ, hL, hk0, hlocks⟩ := F
  obtain ⟨hG, hOK, hq, hY, hr, hO0, hko, ho9, h1, h2⟩ := id hI
  obtain ⟨sn, sv, -, hO⟩ := id hO0
  have hM := hMJ.1
  have hbA : ¬ kN0 k b := fun z => absurd (show k 0 ≤ b from z) (by omega)
  have hN : ∀ a, kN0 k a → k 0 ≤ a := fun _ h => h
  have hkH : k 0 ≤ H.size := by have := hS.1; omega
  refine lv_tableIn (tgt := 2068) (off := 2025) hx hb dL_law_43 (by rw [iZ_toInt (z := 34) (by omega)]; omega) (by rw [iZ_toInt (z := 34) (by omega)]; omega) (by rw [iZ_toInt (z := 34) (by omega)]; rfl) (by decide) ?_
  refine lv_aload_n hx hb dL_law_2068 rfl (lv_at hl 3 rfl) ?_
  refine lv_aload_n hx hb dL_law_2069 rfl (lv_at hl 4 rfl) ?_
  refine lv_iload hx hb dL_law_2070 (lv_at hl 0 rfl) ?_
  refine lv_iconst (v := iZ 1) hx hb dL_law_2072 rfl ?_
  refine kz_iadd hx hb dL_law_2073 ?_
  refine kz_sld hx hb hX hbl hbA hS (by omega) hL5 dL_law_2074 ?_
  refine lv_aload_n hx hb dL_law_2075 rfl (lv_at hl 4 rfl) ?_
  refine lv_iload hx hb dL_law_2076 (lv_at hl 0 rfl) ?_
  refine lv_iconst (v := iZ 2) hx hb dL_law_2078 rfl ?_
  refine kz_iadd hx hb dL_law_2079 ?_
  refine kz_sld hx hb hX hbl hbA hS (by omega) hL5 dL_law_2080 ?_
  refine lv_aload_n hx hb dL_law_2081 rfl (lv_at hl 4 rfl) ?_
  refine lv_iload hx hb dL_law_2082 (lv_at hl 0 rfl) ?_
  refine lv_iconst (v := iZ 3) hx hb dL_law_2084 rfl ?_
  refine kz_iadd hx hb dL_law_2085 ?_
  refine kz_sld hx hb hX hbl hbA hS (by omega) hL5 dL_law_2086 ?_
  refine lv_aload_n hx hb dL_law_2087 rfl (lv_at hl 1 rfl) ?_
  refine kc2 (vx_runSW (As := [.ref (q 0), .int (iZ (fx xs (i + 1))), .int (iZ (fx xs (i + 2))), .int (iZ (fx xs (i + 3))), .ref o]) (rest := []) ⟨hx, hb, hml, hown, hts⟩ (c_L_isLeaf l hst dC dI dA k q σ _ hG hOK hq o sn sv hO hko ho9 ((fx xs (i + 1))) ((fx xs (i + 2))) ((fx xs (i + 3))) (fx_rng _ _) (fx_rng _ _) (fx_rng _ _)) (vx_cwSW 5 hts (kg_S mw900 mw901 mw41 rfl mw902) rfl rfl rfl hdS_L_isLeaf ⟨Nat.le_of_ble_eq_true rfl, Nat.le_of_ble_eq_true rfl⟩) ⟨fun a U g mk q => ⟨q.1, q.2.1, kMJ_call q.2.2.1, kL_call q.2.2.2⟩, fun U hU hW => ⟨rfl, hU, kMJ_kept hMJ hS hN hU hW, kL_warm hL hW⟩⟩ rfl rfl hl.1 rfl (lv_room (Nat.le_of_ble_eq_true rfl)) dL_law_2088 ⟨kroomC (by omega), kroomS (by omega)⟩) hS (fun a _ h => kAO_N hq hko hkH a h) (fun a h => kAO_N hq hko hkH a h) (fun H1 locs hC hy9 hk9 hS => ?_)
  obtain ⟨hG1, hO1⟩ := hC
  have hY1 := kY_keptO hY hk9 h1 h2
  have hG1 := gX_cast hG1 (kif_same _)
  have h8 : kOK8 σ σ := ⟨hOK, rfl⟩
  have hkH1 : k 0 ≤ H1.size := Nat.le_trans hkH hy9
  clear hk9
  refine lv_istore (lv' := [(5, .int (iZ (ex2 (!inb (fx xs (i + 1)) 0 3 || !inb (fx xs (i + 3)) 0 3) (!inb (fx xs (i + 2)) 0 4)))), (4, .int (iZ i)), (3, .ref o), (2, .ref m0), (1, .ref (q 0)), (0, .ref b)]) hx hb dL_law_2091 hl (by decide) rfl (fun ls hl => ?_)
  refine lv_aload_n hx hb dL_law_2093 rfl (lv_at hl 3 rfl) ?_
  refine lv_aload_n hx hb dL_law_2094 rfl (lv_at hl 5 rfl) ?_
  refine lv_iload hx hb dL_law_2095 (lv_at hl 1 rfl) ?_
  refine lv_iconst (v := iZ 1) hx hb dL_law_2097 rfl ?_
  refine kz_iadd hx hb dL_law_2098 ?_
  refine kz_sld hx hb hX hbl hbA hS (by omega) hL5 dL_law_2099 ?_
  refine lv_aload_n hx hb dL_law_2100 rfl (lv_at hl 5 rfl) ?_
  refine lv_iload hx hb dL_law_2101 (lv_at hl 1 rfl) ?_
  refine lv_iconst (v := iZ 2) hx hb dL_law_2103 rfl ?_
  refine kz_iadd hx hb dL_law_2104 ?_
  refine kz_sld hx hb hX hbl hbA hS (by omega) hL5 dL_law_2105 ?_
  refine lv_aload_n hx hb dL_law_2106 rfl (lv_at hl 5 rfl) ?_
  refine lv_iload hx hb dL_law_2107 (lv_at hl 1 rfl) ?_
  refine lv_iconst (v := iZ 3) hx hb dL_law_2109 rfl ?_
  refine kz_iadd hx hb dL_law_2110 ?_
  refine kz_sld hx hb hX hbl hbA hS (by omega) hL5 dL_law_2111 ?_
  refine kc2 (va_runV (As := [.int (iZ (fx xs (i + 1))), .int (iZ (fx xs (i + 2))), .int (iZ (fx xs (i + 3)))]) (rest := []) ⟨hx, hb, hml, hown, hts⟩ (c_X3_isLeaf l dC dI dA k m0 r σ th _ hY1 hr hOK ((fx xs (i + 1))) ((fx xs (i + 2))) ((fx xs (i + 3))) (fx_rng _ _) (fx_rng _ _) (fx_rng _ _)) (cwV 3 hts (kg_V mw1307 mw1308 mw1309 mw47 rfl mw1310) rfl rfl rfl hdV_X3_isLeaf ⟨Nat.le_of_ble_eq_true rfl, Nat.le_of_ble_eq_true rfl⟩) ⟨fun a U g mk q => ⟨q.1, q.2.1, kM_call q.2.2⟩, va_recv hM.1 hY1 (ci := 6) (q0 := 0) rfl rfl, fun U hU hW => ⟨rfl, hU, kM_kept hM hS hN hU hW⟩⟩ rfl rfl hl.1 rfl (lv_room (Nat.le_of_ble_eq_true rfl)) dL_law_2112 ⟨kroomC (by omega), kroomS (by omega)⟩) hS (fun a _ h => kAy_N hr hkH1 a h) (fun a h => kAy_N hr hkH1 a h) (fun H2 locs hC2 hy8 hk8 hS => ?_)
  obtain ⟨r2, hI2, hO2⟩ := LI_step hI hG1 hO1 hC2 hk8 h8
  refine lv_istore (lv' := [(6, .int (iZ (bZ (decide (ex2 (!inb (fx xs (i + 1)) 0 3 || !inb (fx xs (i + 3)) 0 3) (!inb (fx xs (i + 2)) 0 4) = 0) && (decide ((fx xs (i + 2)) = 0 ∧ σ 0 ((fx xs (i + 1)).toNat) = σ 0 ((fx xs (i + 3)).toNat) ∧ σ 1 ((fx xs (i + 1)).toNat) = σ 1 ((fx xs (i + 3)).toNat))))))), (5, .int (iZ (ex2 (!inb (fx xs (i + 1)) 0 3 || !inb (fx xs (i + 3)) 0 3) (!inb (fx xs (i + 2)) 0 4)))), (4, .int (iZ i)), (3, .ref o), (2, .ref m0), (1, .ref (q 0)), (0, .ref b)]) hx hb dL_law_2115 hl (by decide) rfl (fun ls hl => ?_)
  refine lv_goto (tgt := 3011) hx hb dL_law_2117 (by decide) ?_
  refine W.widen (k := cs + 600) (n := ss + 4000) (by omega) (by omega) ?_
  exact kk r2 _ _ _ _ _ hI2 hS (by have h9 := h8.2; omega) (lv_sub hl [2, 3, 4, 5, 6] rfl)

set_option maxHeartbeats 4000000 in
set_option maxRecDepth 100000 in
theorem lc_35 {p : Program} {l : Launch} {e : Env} {s : State} {m : MethodId} {below : List Frame} {meth : Method} {c : Code} {Q : State → Prop} {b L : Nat} {xs : Nat → Int32} {dC : Nat → ClassId} {dI : Nat → Nat → Nat} {dA : Nat → ClassId} {k : Nat → Nat} (hst : l.stackTraces = false) (F : kF p s m meth c b L xs dC dI dA k)
    {q : Nat → Nat} {m0 : Nat} {r : Nat → Nat → Nat} {o : Nat} {σ : Nat → Nat → Int} {th : Int} {H : Heap} {locs : List Loc} {cs ss : Nat} {i : Int} {ls : Array Slot} (hI : LI dC dI dA k q m0 r o σ th H) (hS : va_S (kN0 k) s.heap H locs) (hi : 0 ≤ i ∧ i + 5 ≤ (L : Int)) (hcs : cs + 600 ≤ 652095) (hss : ss + 4000 ≤ 7139820) (h80 : 0 ≤ σ 8 0 ∧ σ 8 0 ≤ 100000) (hl : lv_has ls 7 [(4, .int (iZ i)), (3, .ref o), (2, .ref m0), (1, .ref (q 0)), (0, .ref b)])
    (kk : ∀ (r' : Nat → Nat → Nat) (σ' : Nat → Nat → Int) (th' : Int) (H' : Heap) (locs' : List Loc) (ls' : Array Slot), LI dC dI dA k q m0 r' o σ' th' H' → va_S (kN0 k) s.heap H' locs' → σ 8 0 ≤ σ' 8 0 ∧ σ' 8 0 ≤ σ 8 0 + 1 → lv_has ls' 7 [(4, .int (iZ i)), (3, .ref o), (2, .ref m0), (1, .ref (q 0)), (0, .ref b)] → W p l e room_1 s m #[Value.ref b] below meth c H' locs' (cs + 600) (ss + 4000) Q (F0 m 3011 ls' [])) :
    W p l e room_1 s m #[Value.ref b] below meth c H locs cs ss Q (F0 m 43 ls [.int (iZ 35)]) := by
  obtain ⟨hx, hb, hr9, hml, hown, hts, hX, hbl, hL5, hMJ, hL, hk0, hlocks⟩ := F
  obtain ⟨hG, hOK, hq, hY, hr, hO0, hko, ho9, h1, h2⟩ := id hI
  obtain ⟨sn, sv, -, hO⟩ := id hO0
  have hM := hMJ.1
  have hbA : ¬ kN0 k b := fun z => absurd (show k 0 ≤ b from z) (by omega)
  have hN : ∀ a, kN0 k a → k 0 ≤ a := fun _ h => h
  have hkH : k 0 ≤ H.size := by have := hS.1; omega
  refine lv_tableIn (tgt := 2120) (off := 2077) hx hb dL_law_43 (by rw [iZ_toInt (z := 35) (by omega)]; omega) (by rw [iZ_toInt (z := 35) (by omega)]; omega) (by rw [iZ_toInt (z := 35) (by omega)]; rfl) (by decide) ?_
  refine lv_aload_n hx hb dL_law_2120 rfl (lv_at hl 3 rfl) ?_
  refine lv_aload_n hx hb dL_law_2121 rfl (lv_at hl 4 rfl) ?_
  refine lv_iload hx hb dL_law_2122 (lv_at hl 0 rfl) ?_
  refine lv_iconst (v := iZ 1) hx hb dL_law_2124 rfl ?_
  refine kz_iadd hx hb dL_law_2125 ?_
  refine kz_sld hx hb hX hbl hbA hS (by omega) hL5 dL_law_2126 ?_
  refine lv_aload_n hx hb dL_law_2127 rfl (lv_at hl 4 rfl) ?_
  refine lv_iload hx hb dL_law_2128 (lv_at hl 0 rfl) ?_
  refine lv_iconst (v := iZ 2) hx hb dL_law_2130 rfl ?_
  refine kz_iadd hx hb dL_law_2131 ?_
  refine kz_sld hx hb hX hbl hbA hS (by omega) hL5 dL_law_2132 ?_
  refine lv_aload_n hx hb dL_law_2133 rfl (lv_at hl 4 rfl) ?_
  refine lv_iload hx hb dL_law_2134 (lv_at hl 0 rfl) ?_
  refine lv_iconst (v := iZ 3) hx hb dL_law_2136 rfl ?_
  refine kz_iadd hx hb dL_law_2137 ?_
  refine kz_sld hx hb hX hbl hbA hS (by omega) hL5 dL_law_2138 ?_
  refine lv_aload_n hx hb dL_law_2139 rfl (lv_at hl 4 rfl) ?_
  refine lv_iload hx hb dL_law_2140 (lv_at hl 0 rfl) ?_
  refine lv_iconst (v := iZ 4) hx hb dL_law_2142 rfl ?_
  refine kz_iadd hx hb dL_law_2143 ?_
  refine kz_sld hx hb hX hbl hbA hS (by omega) hL5 dL_law_2144 ?_
  refine kz_b2i hx hb (fx_rng _ _) dL_law_2145 dL_law_2148 dL_law_2149 dL_law_2152 ?_
  refine lv_aload_n hx hb dL_law_2153 rfl (lv_at hl 1 rfl) ?_
  refine kc2 (vx_runSW (As := [.ref (q 0), .int (iZ (fx xs (i + 1))), .int (iZ (fx xs (i + 2))), .int (iZ (fx xs (i + 3))), .int (iZ (bZ (!decide (fx xs (i + 4) = 0)))), .ref o]) (rest := []) ⟨hx, hb, hml, hown, hts⟩ (c_L_leafTo l hst dC dI dA k q σ _ hG hOK hq o sn sv hO hko ho9 ((fx xs (i + 1))) ((fx xs (i + 2))) ((fx xs (i + 3))) (!decide (fx xs (i + 4) = 0)) (fx_rng _ _) (fx_rng _ _) (fx_rng _ _)) (vx_cwSW 6 hts (kg_S mw907 mw908 mw41 rfl mw909) rfl rfl rfl hdS_L_leafTo ⟨Nat.le_of_ble_eq_true rfl, Nat.le_of_ble_eq_true rfl⟩) ⟨fun a U g mk q => ⟨q.1, q.2.1, kMJ_call q.2.2.1, kL_call q.2.2.2⟩, fun U hU hW => ⟨rfl, hU, kMJ_kept hMJ hS hN hU hW, kL_warm hL hW⟩⟩ rfl rfl hl.1 rfl (lv_room (Nat.le_of_ble_eq_true rfl)) dL_law_2154 ⟨kroomC (by omega), kroomS (by omega)⟩) hS (fun a _ h => kAO_N hq hko hkH a h) (fun a h => kAO_N hq hko hkH a h) (fun H1 locs hC hy9 hk9 hS => ?_)
  obtain ⟨hG1, hO1⟩ := hC
  have hY1 := kY_keptO hY hk9 h1 h2
  have hG1 := gX_cast hG1 (kif_same _)
  have h8 : kOK8 σ σ := ⟨hOK, rfl⟩
  have hkH1 : k 0 ≤ H1.size := Nat.le_trans hkH hy9
  clear hk9
  refine lv_istore (lv' := [(5, .int (iZ (ex2 (!inb (fx xs (i + 1)) 0 3 || !inb (fx xs (i + 2)) 0 3) (!inb (fx xs (i + 3)) 0 4)))), (4, .int (iZ i)), (3, .ref o), (2, .ref m0), (1, .ref (q 0)), (0, .ref b)]) hx hb dL_law_2157 hl (by decide) rfl (fun ls hl => ?_)
  refine lv_aload_n hx hb dL_law_2159 rfl (lv_at hl 3 rfl) ?_
  refine lv_aload_n hx hb dL_law_2160 rfl (lv_at hl 5 rfl) ?_
  refine lv_iload hx hb dL_law_2161 (lv_at hl 1 rfl) ?_
  refine lv_iconst (v := iZ 1) hx hb dL_law_2163 rfl ?_
  refine kz_iadd hx hb dL_law_2164 ?_
  refine kz_sld hx hb hX hbl hbA hS (by omega) hL5 dL_law_2165 ?_
  refine lv_aload_n hx hb dL_law_2166 rfl (lv_at hl 5 rfl) ?_
  refine lv_iload hx hb dL_law_2167 (lv_at hl 1 rfl) ?_
  refine lv_iconst (v := iZ 2) hx hb dL_law_2169 rfl ?_
  refine kz_iadd hx hb dL_law_2170 ?_
  refine kz_sld hx hb hX hbl hbA hS (by omega) hL5 dL_law_2171 ?_
  refine lv_aload_n hx hb dL_law_2172 rfl (lv_at hl 5 rfl) ?_
  refine lv_iload hx hb dL_law_2173 (lv_at hl 1 rfl) ?_
  refine lv_iconst (v := iZ 3) hx hb dL_law_2175 rfl ?_
  refine kz_iadd hx hb dL_law_2176 ?_
  refine kz_sld hx hb hX hbl hbA hS (by omega) hL5 dL_law_2177 ?_
  refine lv_aload_n hx hb dL_law_2178 rfl (lv_at hl 5 rfl) ?_
  refine lv_iload hx hb dL_law_2179 (lv_at hl 1 rfl) ?_
  refine lv_iconst (v := iZ 4) hx hb dL_law_2181 rfl ?_
  refine kz_iadd hx hb dL_law_2182 ?_
  refine kz_sld hx hb hX hbl hbA hS (by omega) hL5 dL_law_2183 ?_
  refine kz_b2i hx hb (fx_rng _ _) dL_law_2184 dL_law_2187 dL_law_2188 dL_law_2191 ?_
  refine kc2r (va_runV (As := [.int (iZ (fx xs (i + 1))), .int (iZ (fx xs (i + 2))), .int (iZ (fx xs (i + 3))), .int (iZ (bZ (!decide (fx xs (i + 4) = 0))))]) (rest := []) ⟨hx, hb, hml, hown, hts⟩ (c_X3_leafTo l dC dI dA k m0 r σ th _ hY1 hr hOK ((fx xs (i + 1))) ((fx xs (i + 2))) ((fx xs (i + 3))) (!decide (fx xs (i + 4) = 0)) (fx_rng _ _) (fx_rng _ _) (fx_rng _ _)) (cwV 4 hts (kg_V mw1314 mw1315 mw1316 mw47 rfl mw1317) rfl rfl rfl hdV_X3_leafTo ⟨Nat.le_of_ble_eq_true rfl, Nat.le_of_ble_eq_true rfl⟩) ⟨fun a U g mk q => ⟨q.1, q.2.1, kMJ_call q.2.2⟩, va_recv hM.1 hY1 (ci := 6) (q0 := 0) rfl rfl, fun U hU hW => ⟨rfl, hU, kMJ_kept hMJ hS hN hU hW⟩⟩ rfl rfl hl.1 rfl (lv_room (Nat.le_of_ble_eq_true rfl)) dL_law_2192 ⟨kroomC (by omega), kroomS (by omega)⟩) hS (fun a _ h => kAy_N hr hkH1 a h) (fun a h => kAy_N hr hkH1 a h) (fun x9 H2 locs hC2 hy8 hk8 hS => ?_)
  obtain ⟨hC2, hT2⟩ := hC2
  have hC2 := gY_id (sz := H1.size) hr hC2
  obtain ⟨r2, hI2, -⟩ := LI_step hI hG1 (gOS_O hO1) hC2 hk8 h8
  have hO2 := gOS_step hI hO1 hk8
  refine lv_astore (lv' := [(6, .ref x9), (5, .int (iZ (ex2 (!inb (fx xs (i + 1)) 0 3 || !inb (fx xs (i + 2)) 0 3) (!inb (fx xs (i + 3)) 0 4)))), (4, .int (iZ i)), (3, .ref o), (2, .ref m0), (1, .ref (q 0)), (0, .ref b)]) hx hb dL_law_2195 hl (by decide) rfl (fun ls hl => ?_)
  refine lv_goto (tgt := 3011) hx hb dL_law_2197 (by decide) ?_
  refine W.widen (k := cs + 600) (n := ss + 4000) (by omega) (by omega) ?_
  exact kk r2 _ _ _ _ _ hI2 hS (by have h9 := h8.2; omega) (lv_sub hl [2, 3, 4, 5, 6] rfl)

set_option maxHeartbeats 4000000 in
set_option maxRecDepth 100000 in
theorem lc_36 {p : Program} {l : Launch} {e : Env} {s : State} {m : MethodId} {below : List Frame} {meth : Method} {c : Code} {Q : State → Prop} {b L : Nat} {xs : Nat → Int32} {dC : Nat → ClassId} {dI : Nat → Nat → Nat} {dA : Nat → ClassId} {k : Nat → Nat} (hst : l.stackTraces = false) (F : kF p s m meth c b L xs dC dI dA k)
    {q : Nat → Nat} {m0 : Nat} {r : Nat → Nat → Nat} {o : Nat} {σ : Nat → Nat → Int} {th : Int} {H : Heap} {locs : List Loc} {cs ss : Nat} {i : Int} {ls : Array Slot} (hI : LI dC dI dA k q m0 r o σ th H) (hS : va_S (kN0 k) s.heap H locs) (hi : 0 ≤ i ∧ i + 5 ≤ (L : Int)) (hcs : cs + 600 ≤ 652095) (hss : ss + 4000 ≤ 7139820) (h80 : 0 ≤ σ 8 0 ∧ σ 8 0 ≤ 100000) (hl : lv_has ls 7 [(4, .int (iZ i)), (3, .ref o), (2, .ref m0), (1, .ref (q 0)), (0, .ref b)])
    (kk : ∀ (r' : Nat → Nat → Nat) (σ' : Nat → Nat → Int) (th' : Int) (H' : Heap) (locs' : List Loc) (ls' : Array Slot), LI dC dI dA k q m0 r' o σ' th' H' → va_S (kN0 k) s.heap H' locs' → σ 8 0 ≤ σ' 8 0 ∧ σ' 8 0 ≤ σ 8 0 + 1 → lv_has ls' 7 [(4, .int (iZ i)), (3, .ref o), (2, .ref m0), (1, .ref (q 0)), (0, .ref b)] → W p l e room_1 s m #[Value.ref b] below meth c H' locs' (cs + 600) (ss + 4000) Q (F0 m 3011 ls' [])) :
    W p l e room_1 s m #[Value.ref b] below meth c H locs cs ss Q (F0 m 43 ls [.int (iZ 36)]) := by
  obtain ⟨hx, hb, hr9, hml, hown, hts, hX, hbl, hL5, hMJ, hL, hk0, hlocks⟩ := F
  obtain ⟨hG, hOK, hq, hY, hr, hO0, hko, ho9, h1, h2⟩ := id hI
  obtain ⟨sn, sv, -, hO⟩ := id hO0
  have hM := hMJ.1
  have hbA : ¬ kN0 k b := fun z => absurd (show k 0 ≤ b from z) (by omega)
  have hN : ∀ a, kN0 k a → k 0 ≤ a := fun _ h => h
  have hkH : k 0 ≤ H.size := by have := hS.1; omega
  refine lv_tableIn (tgt := 2200) (off := 2157) hx hb dL_law_43 (by rw [iZ_toInt (z := 36) (by omega)]; omega) (by rw [iZ_toInt (z := 36) (by omega)]; omega) (by rw [iZ_toInt (z := 36) (by omega)]; rfl) (by decide) ?_
  refine lv_aload_n hx hb dL_law_2200 rfl (lv_at hl 3 rfl) ?_
  refine lv_aload_n hx hb dL_law_2201 rfl (lv_at hl 4 rfl) ?_
  refine lv_iload hx hb dL_law_2202 (lv_at hl 0 rfl) ?_
  refine lv_iconst (v := iZ 1) hx hb dL_law_2204 rfl ?_
  refine kz_iadd hx hb dL_law_2205 ?_
  refine kz_sld hx hb hX hbl hbA hS (by omega) hL5 dL_law_2206 ?_
  refine lv_aload_n hx hb dL_law_2207 rfl (lv_at hl 4 rfl) ?_
  refine lv_iload hx hb dL_law_2208 (lv_at hl 0 rfl) ?_
  refine lv_iconst (v := iZ 2) hx hb dL_law_2210 rfl ?_
  refine kz_iadd hx hb dL_law_2211 ?_
  refine kz_sld hx hb hX hbl hbA hS (by omega) hL5 dL_law_2212 ?_
  refine lv_aload_n hx hb dL_law_2213 rfl (lv_at hl 1 rfl) ?_
  refine kc2 (vx_runSW (As := [.ref (q 0), .int (iZ (fx xs (i + 1))), .int (iZ (fx xs (i + 2))), .ref o]) (rest := []) ⟨hx, hb, hml, hown, hts⟩ (c_L_ofYear l hst dC dI dA k q σ _ hG hOK hq o sn sv hO hko ho9 ((fx xs (i + 1))) ((fx xs (i + 2))) (fx_rng _ _) (fx_rng _ _)) (vx_cwSW 4 hts (kg_S mw914 mw915 mw41 rfl mw916) rfl rfl rfl hdS_L_ofYear ⟨Nat.le_of_ble_eq_true rfl, Nat.le_of_ble_eq_true rfl⟩) ⟨fun a U g mk q => ⟨q.1, q.2.1, kMJ_call q.2.2.1, kL_call q.2.2.2⟩, fun U hU hW => ⟨rfl, hU, kMJ_kept hMJ hS hN hU hW, kL_warm hL hW⟩⟩ rfl rfl hl.1 rfl (lv_room (Nat.le_of_ble_eq_true rfl)) dL_law_2214 ⟨kroomC (by omega), kroomS (by omega)⟩) hS (fun a _ h => kAO_N hq hko hkH a h) (fun a h => kAO_N hq hko hkH a h) (fun H1 locs hC hy9 hk9 hS => ?_)
  obtain ⟨hG1, hO1⟩ := hC
  have hY1 := kY_keptO hY hk9 h1 h2
  have hG1 := gX_cast hG1 (kif_same _)
  have h8 : kOK8 σ σ := ⟨hOK, rfl⟩
  have hkH1 : k 0 ≤ H1.size := Nat.le_trans hkH hy9
  clear hk9
  refine lv_istore (lv' := [(5, .int (iZ (ex2 (!inb (fx xs (i + 1)) 0 3) (!inb (fx xs (i + 2)) 0 4)))), (4, .int (iZ i)), (3, .ref o), (2, .ref m0), (1, .ref (q 0)), (0, .ref b)]) hx hb dL_law_2217 hl (by decide) rfl (fun ls hl => ?_)
  refine lv_aload_n hx hb dL_law_2219 rfl (lv_at hl 3 rfl) ?_
  refine lv_aload_n hx hb dL_law_2220 rfl (lv_at hl 5 rfl) ?_
  refine lv_iload hx hb dL_law_2221 (lv_at hl 1 rfl) ?_
  refine lv_iconst (v := iZ 1) hx hb dL_law_2223 rfl ?_
  refine kz_iadd hx hb dL_law_2224 ?_
  refine kz_sld hx hb hX hbl hbA hS (by omega) hL5 dL_law_2225 ?_
  refine lv_aload_n hx hb dL_law_2226 rfl (lv_at hl 5 rfl) ?_
  refine lv_iload hx hb dL_law_2227 (lv_at hl 1 rfl) ?_
  refine lv_iconst (v := iZ 2) hx hb dL_law_2229 rfl ?_
  refine kz_iadd hx hb dL_law_2230 ?_
  refine kz_sld hx hb hX hbl hbA hS (by omega) hL5 dL_law_2231 ?_
  refine kc2 (va_runV (As := [.int (iZ (fx xs (i + 1))), .int (iZ (fx xs (i + 2)))]) (rest := []) ⟨hx, hb, hml, hown, hts⟩ (c_X3_ofYear l dC dI dA k m0 r σ th _ hY1 hr hOK ((fx xs (i + 1))) ((fx xs (i + 2))) (fx_rng _ _) (fx_rng _ _)) (cwV 2 hts (kg_V mw1321 mw1322 mw1323 mw47 rfl mw1324) rfl rfl rfl hdV_X3_ofYear ⟨Nat.le_of_ble_eq_true rfl, Nat.le_of_ble_eq_true rfl⟩) ⟨fun a U g mk q => ⟨q.1, q.2.1, kM_call q.2.2⟩, va_recv hM.1 hY1 (ci := 6) (q0 := 0) rfl rfl, fun U hU hW => ⟨rfl, hU, kM_kept hM hS hN hU hW⟩⟩ rfl rfl hl.1 rfl (lv_room (Nat.le_of_ble_eq_true rfl)) dL_law_2232 ⟨kroomC (by omega), kroomS (by omega)⟩) hS (fun a _ h => kAy_N hr hkH1 a h) (fun a h => kAy_N hr hkH1 a h) (fun H2 locs hC2 hy8 hk8 hS => ?_)
  obtain ⟨r2, hI2, hO2⟩ := LI_step hI hG1 hO1 hC2 hk8 h8
  refine lv_istore (lv' := [(6, .int (iZ (if ex2 (!inb (fx xs (i + 1)) 0 3) (!inb (fx xs (i + 2)) 0 4) = 0 then (ofY σ ((fx xs (i + 1)).toNat) (fx xs (i + 2))) else 0))), (5, .int (iZ (ex2 (!inb (fx xs (i + 1)) 0 3) (!inb (fx xs (i + 2)) 0 4)))), (4, .int (iZ i)), (3, .ref o), (2, .ref m0), (1, .ref (q 0)), (0, .ref b)]) hx hb dL_law_2235 hl (by decide) rfl (fun ls hl => ?_)
  refine lv_goto (tgt := 3011) hx hb dL_law_2237 (by decide) ?_
  refine W.widen (k := cs + 600) (n := ss + 4000) (by omega) (by omega) ?_
  exact kk r2 _ _ _ _ _ hI2 hS (by have h9 := h8.2; omega) (lv_sub hl [2, 3, 4, 5, 6] rfl)

set_option maxHeartbeats 4000000 in
set_option maxRecDepth 100000 in
theorem lc_37 {p : Program} {l : Launch} {e : Env} {s : State} {m : MethodId} {below : List Frame} {meth : Method} {c : Code} {Q : State → Prop} {b L : Nat} {xs : Nat → Int32} {dC : Nat → ClassId} {dI : Nat → Nat → Nat} {dA : Nat → ClassId} {k : Nat → Nat} (hst : l.stackTraces = false) (F : kF p s m meth c b L xs dC dI dA k)
    {q : Nat → Nat} {m0 : Nat} {r : Nat → Nat → Nat} {o : Nat} {σ : Nat → Nat → Int} {th : Int} {H : Heap} {locs : List Loc} {cs ss : Nat} {i : Int} {ls : Array Slot} (hI : LI dC dI dA k q m0 r o σ th H) (hS : va_S (kN0 k) s.heap H locs) (hi : 0 ≤ i ∧ i + 5 ≤ (L : Int)) (hcs : cs + 600 ≤ 652095) (hss : ss + 4000 ≤ 7139820) (h80 : 0 ≤ σ 8 0 ∧ σ 8 0 ≤ 100000) (hl : lv_has ls 7 [(4, .int (iZ i)), (3, .ref o), (2, .ref m0), (1, .ref (q 0)), (0, .ref b)])
    (kk : ∀ (r' : Nat → Nat → Nat) (σ' : Nat → Nat → Int) (th' : Int) (H' : Heap) (locs' : List Loc) (ls' : Array Slot), LI dC dI dA k q m0 r' o σ' th' H' → va_S (kN0 k) s.heap H' locs' → σ 8 0 ≤ σ' 8 0 ∧ σ' 8 0 ≤ σ 8 0 + 1 → lv_has ls' 7 [(4, .int (iZ i)), (3, .ref o), (2, .ref m0), (1, .ref (q 0)), (0, .ref b)] → W p l e room_1 s m #[Value.ref b] below meth c H' locs' (cs + 600) (ss + 4000) Q (F0 m 3011 ls' [])) :
    W p l e room_1 s m #[Value.ref b] below meth c H locs cs ss Q (F0 m 43 ls [.int (iZ 37)]) := by
  obtain ⟨hx, hb, hr9, hml, hown, hts, hX, hbl, hL5, hMJ, hL, hk0, hlocks⟩ := F
  obtain ⟨hG, hOK, hq, hY, hr, hO0, hko, ho9, h1, h2⟩ := id hI
  obtain ⟨sn, sv, -, hO⟩ := id hO0
  have hM := hMJ.1
  have hbA : ¬ kN0 k b := fun z => absurd (show k 0 ≤ b from z) (by omega)
  have hN : ∀ a, kN0 k a → k 0 ≤ a := fun _ h => h
  have hkH : k 0 ≤ H.size := by have := hS.1; omega
  refine lv_tableIn (tgt := 2240) (off := 2197) hx hb dL_law_43 (by rw [iZ_toInt (z := 37) (by omega)]; omega) (by rw [iZ_toInt (z := 37) (by omega)]; omega) (by rw [iZ_toInt (z := 37) (by omega)]; rfl) (by decide) ?_
  refine lv_aload_n hx hb dL_law_2240 rfl (lv_at hl 3 rfl) ?_
  refine lv_aload_n hx hb dL_law_2241 rfl (lv_at hl 4 rfl) ?_
  refine lv_iload hx hb dL_law_2242 (lv_at hl 0 rfl) ?_
  refine lv_iconst (v := iZ 1) hx hb dL_law_2244 rfl ?_
  refine kz_iadd hx hb dL_law_2245 ?_
  refine kz_sld hx hb hX hbl hbA hS (by omega) hL5 dL_law_2246 ?_
  refine lv_aload_n hx hb dL_law_2247 rfl (lv_at hl 4 rfl) ?_
  refine lv_iload hx hb dL_law_2248 (lv_at hl 0 rfl) ?_
  refine lv_iconst (v := iZ 2) hx hb dL_law_2250 rfl ?_
  refine kz_iadd hx hb dL_law_2251 ?_
  refine kz_sld hx hb hX hbl hbA hS (by omega) hL5 dL_law_2252 ?_
  obtain ⟨tb, tn, tm, htn, hfit, htm, hPx⟩ := id hG
  refine kc0 (fun _ q => q) (va_runV (As := [.int (iZ (fx xs (i + 1))), .int (iZ (fx xs (i + 2)))]) (rest := []) ⟨hx, hb, hml, hown, hts⟩ (c_X1_isLeap l dC dI dA k q σ _ hG hOK ((fx xs (i + 1))) ((fx xs (i + 2))) (fx_rng _ _) (fx_rng _ _)) (cwV 2 hts (kg_V mw105 mw106 mw107 mw42 rfl mw108) rfl rfl rfl hdV_X1_isLeap ⟨Nat.le_of_ble_eq_true rfl, Nat.le_of_ble_eq_true rfl⟩) ⟨fun a U g mk q => ⟨q.1, q.2.1, kM_call q.2.2⟩, va_recv hM.1 hPx (ci := 4) (q0 := 0) rfl rfl, fun U hU hW => ⟨rfl, hU, kM_kept hM hS hN hU hW⟩⟩ rfl rfl hl.1 rfl (lv_room (Nat.le_of_ble_eq_true rfl)) dL_law_2253 ⟨kroomC (by omega), kroomS (by omega)⟩) ?_
  have hG1 := hG
  have hO1 := hO0
  have hY1 := hY
  have h8 : kOK8 σ σ := ⟨hOK, rfl⟩
  have hkH1 := hkH
  refine lv_pop hx hb dL_law_2256 rfl ?_
  refine lv_aload_n hx hb dL_law_2257 rfl (lv_at hl 2 rfl) ?_
  refine lv_aload_n hx hb dL_law_2258 rfl (lv_at hl 4 rfl) ?_
  refine lv_iload hx hb dL_law_2259 (lv_at hl 0 rfl) ?_
  refine lv_iconst (v := iZ 1) hx hb dL_law_2261 rfl ?_
  refine kz_iadd hx hb dL_law_2262 ?_
  refine kz_sld hx hb hX hbl hbA hS (by omega) hL5 dL_law_2263 ?_
  refine lv_aload_n hx hb dL_law_2264 rfl (lv_at hl 4 rfl) ?_
  refine lv_iload hx hb dL_law_2265 (lv_at hl 0 rfl) ?_
  refine lv_iconst (v := iZ 2) hx hb dL_law_2267 rfl ?_
  refine kz_iadd hx hb dL_law_2268 ?_
  refine kz_sld hx hb hX hbl hbA hS (by omega) hL5 dL_law_2269 ?_
  refine kc2 (va_runV (As := [.int (iZ (fx xs (i + 1))), .int (iZ (fx xs (i + 2)))]) (rest := []) ⟨hx, hb, hml, hown, hts⟩ (c_X3_isLeap l dC dI dA k m0 r σ th _ hY1 hr hOK ((fx xs (i + 1))) ((fx xs (i + 2))) (fx_rng _ _) (fx_rng _ _)) (cwV 2 hts (kg_V mw1328 mw1329 mw1330 mw47 rfl mw1331) rfl rfl rfl hdV_X3_isLeap ⟨Nat.le_of_ble_eq_true rfl, Nat.le_of_ble_eq_true rfl⟩) ⟨fun a U g mk q => ⟨q.1, q.2.1, kM_call q.2.2⟩, va_recv hM.1 hY1 (ci := 6) (q0 := 0) rfl rfl, fun U hU hW => ⟨rfl, hU, kM_kept hM hS hN hU hW⟩⟩ rfl rfl hl.1 rfl (lv_room (Nat.le_of_ble_eq_true rfl)) dL_law_2270 ⟨kroomC (by omega), kroomS (by omega)⟩) hS (fun a _ h => kAy_N hr hkH1 a h) (fun a h => kAy_N hr hkH1 a h) (fun H2 locs hC2 hy8 hk8 hS => ?_)
  obtain ⟨r2, hI2, hO2⟩ := LI_step hI hG1 hO1 hC2 hk8 h8
  refine lv_pop hx hb dL_law_2273 rfl ?_
  refine lv_goto (tgt := 3011) hx hb dL_law_2274 (by decide) ?_
  refine W.widen (k := cs + 600) (n := ss + 4000) (by omega) (by omega) ?_
  exact kk r2 _ _ _ _ _ hI2 hS (by have h9 := h8.2; omega) (lv_sub hl [0, 1, 2, 3, 4] rfl)

set_option maxHeartbeats 4000000 in
set_option maxRecDepth 100000 in
theorem lc_38 {p : Program} {l : Launch} {e : Env} {s : State} {m : MethodId} {below : List Frame} {meth : Method} {c : Code} {Q : State → Prop} {b L : Nat} {xs : Nat → Int32} {dC : Nat → ClassId} {dI : Nat → Nat → Nat} {dA : Nat → ClassId} {k : Nat → Nat} (hst : l.stackTraces = false) (F : kF p s m meth c b L xs dC dI dA k)
    {q : Nat → Nat} {m0 : Nat} {r : Nat → Nat → Nat} {o : Nat} {σ : Nat → Nat → Int} {th : Int} {H : Heap} {locs : List Loc} {cs ss : Nat} {i : Int} {ls : Array Slot} (hI : LI dC dI dA k q m0 r o σ th H) (hS : va_S (kN0 k) s.heap H locs) (hi : 0 ≤ i ∧ i + 5 ≤ (L : Int)) (hcs : cs + 600 ≤ 652095) (hss : ss + 4000 ≤ 7139820) (h80 : 0 ≤ σ 8 0 ∧ σ 8 0 ≤ 100000) (hl : lv_has ls 7 [(4, .int (iZ i)), (3, .ref o), (2, .ref m0), (1, .ref (q 0)), (0, .ref b)])
    (kk : ∀ (r' : Nat → Nat → Nat) (σ' : Nat → Nat → Int) (th' : Int) (H' : Heap) (locs' : List Loc) (ls' : Array Slot), LI dC dI dA k q m0 r' o σ' th' H' → va_S (kN0 k) s.heap H' locs' → σ 8 0 ≤ σ' 8 0 ∧ σ' 8 0 ≤ σ 8 0 + 1 → lv_has ls' 7 [(4, .int (iZ i)), (3, .ref o), (2, .ref m0), (1, .ref (q 0)), (0, .ref b)] → W p l e room_1 s m #[Value.ref b] below meth c H' locs' (cs + 600) (ss + 4000) Q (F0 m 3011 ls' [])) :
    W p l e room_1 s m #[Value.ref b] below meth c H locs cs ss Q (F0 m 43 ls [.int (iZ 38)]) := by
  obtain ⟨hx, hb, hr9, hml, hown, hts, hX, hbl, hL5, hMJ, hL, hk0, hlocks⟩ := F
  obtain ⟨hG, hOK, hq, hY, hr, hO0, hko, ho9, h1, h2⟩ := id hI
  obtain ⟨sn, sv, -, hO⟩ := id hO0
  have hM := hMJ.1
  have hbA : ¬ kN0 k b := fun z => absurd (show k 0 ≤ b from z) (by omega)
  have hN : ∀ a, kN0 k a → k 0 ≤ a := fun _ h => h
  have hkH : k 0 ≤ H.size := by have := hS.1; omega
  refine lv_tableIn (tgt := 2277) (off := 2234) hx hb dL_law_43 (by rw [iZ_toInt (z := 38) (by omega)]; omega) (by rw [iZ_toInt (z := 38) (by omega)]; omega) (by rw [iZ_toInt (z := 38) (by omega)]; rfl) (by decide) ?_
  refine lv_aload_n hx hb dL_law_2277 rfl (lv_at hl 3 rfl) ?_
  refine lv_aload_n hx hb dL_law_2278 rfl (lv_at hl 4 rfl) ?_
  refine lv_iload hx hb dL_law_2279 (lv_at hl 0 rfl) ?_
  refine lv_iconst (v := iZ 1) hx hb dL_law_2281 rfl ?_
  refine kz_iadd hx hb dL_law_2282 ?_
  refine kz_sld hx hb hX hbl hbA hS (by omega) hL5 dL_law_2283 ?_
  refine lv_aload_n hx hb dL_law_2284 rfl (lv_at hl 4 rfl) ?_
  refine lv_iload hx hb dL_law_2285 (lv_at hl 0 rfl) ?_
  refine lv_iconst (v := iZ 2) hx hb dL_law_2287 rfl ?_
  refine kz_iadd hx hb dL_law_2288 ?_
  refine kz_sld hx hb hX hbl hbA hS (by omega) hL5 dL_law_2289 ?_
  refine lv_aload_n hx hb dL_law_2290 rfl (lv_at hl 4 rfl) ?_
  refine lv_iload hx hb dL_law_2291 (lv_at hl 0 rfl) ?_
  refine lv_iconst (v := iZ 3) hx hb dL_law_2293 rfl ?_
  refine kz_iadd hx hb dL_law_2294 ?_
  refine kz_sld hx hb hX hbl hbA hS (by omega) hL5 dL_law_2295 ?_
  refine kz_b2i hx hb (fx_rng _ _) dL_law_2296 dL_law_2299 dL_law_2300 dL_law_2303 ?_
  refine lv_aload_n hx hb dL_law_2304 rfl (lv_at hl 1 rfl) ?_
  refine kc2 (vx_runSW (As := [.ref (q 0), .int (iZ (fx xs (i + 1))), .int (iZ (fx xs (i + 2))), .int (iZ (bZ (!decide (fx xs (i + 3) = 0)))), .ref o]) (rest := []) ⟨hx, hb, hml, hown, hts⟩ (c_L_hasFeast l hst dC dI dA k q σ _ hG hOK hq o sn sv hO hko ho9 ((fx xs (i + 1))) ((fx xs (i + 2))) (!decide (fx xs (i + 3) = 0)) (fx_rng _ _) (fx_rng _ _)) (vx_cwSW 5 hts (kg_S mw918 mw919 mw41 rfl mw920) rfl rfl rfl hdS_L_hasFeast ⟨Nat.le_of_ble_eq_true rfl, Nat.le_of_ble_eq_true rfl⟩) ⟨fun a U g mk q => ⟨q.1, q.2.1, kMJ_call q.2.2.1, kL_call q.2.2.2⟩, fun U hU hW => ⟨rfl, hU, kMJ_kept hMJ hS hN hU hW, kL_warm hL hW⟩⟩ rfl rfl hl.1 rfl (lv_room (Nat.le_of_ble_eq_true rfl)) dL_law_2305 ⟨kroomC (by omega), kroomS (by omega)⟩) hS (fun a _ h => kAO_N hq hko hkH a h) (fun a h => kAO_N hq hko hkH a h) (fun H1 locs hC hy9 hk9 hS => ?_)
  obtain ⟨hG1, hO1⟩ := hC
  have hY1 := kY_keptO hY hk9 h1 h2
  have hG1 := gX_cast hG1 (kif_same _)
  have h8 : kOK8 σ σ := ⟨hOK, rfl⟩
  have hkH1 : k 0 ≤ H1.size := Nat.le_trans hkH hy9
  clear hk9
  refine lv_istore (lv' := [(5, .int (iZ (ex2 (!inb (fx xs (i + 1)) 0 3 || !inb (fx xs (i + 2)) 0 3) (false)))), (4, .int (iZ i)), (3, .ref o), (2, .ref m0), (1, .ref (q 0)), (0, .ref b)]) hx hb dL_law_2308 hl (by decide) rfl (fun ls hl => ?_)
  refine lv_aload_n hx hb dL_law_2310 rfl (lv_at hl 3 rfl) ?_
  refine lv_aload_n hx hb dL_law_2311 rfl (lv_at hl 5 rfl) ?_
  refine lv_iload hx hb dL_law_2312 (lv_at hl 1 rfl) ?_
  refine lv_iconst (v := iZ 1) hx hb dL_law_2314 rfl ?_
  refine kz_iadd hx hb dL_law_2315 ?_
  refine kz_sld hx hb hX hbl hbA hS (by omega) hL5 dL_law_2316 ?_
  refine lv_aload_n hx hb dL_law_2317 rfl (lv_at hl 5 rfl) ?_
  refine lv_iload hx hb dL_law_2318 (lv_at hl 1 rfl) ?_
  refine lv_iconst (v := iZ 2) hx hb dL_law_2320 rfl ?_
  refine kz_iadd hx hb dL_law_2321 ?_
  refine kz_sld hx hb hX hbl hbA hS (by omega) hL5 dL_law_2322 ?_
  refine lv_aload_n hx hb dL_law_2323 rfl (lv_at hl 5 rfl) ?_
  refine lv_iload hx hb dL_law_2324 (lv_at hl 1 rfl) ?_
  refine lv_iconst (v := iZ 3) hx hb dL_law_2326 rfl ?_
  refine kz_iadd hx hb dL_law_2327 ?_
  refine kz_sld hx hb hX hbl hbA hS (by omega) hL5 dL_law_2328 ?_
  refine kz_b2i hx hb (fx_rng _ _) dL_law_2329 dL_law_2332 dL_law_2333 dL_law_2336 ?_
  refine kc2 (va_runV (As := [.int (iZ (fx xs (i + 1))), .int (iZ (fx xs (i + 2))), .int (iZ (bZ (!decide (fx xs (i + 3) = 0))))]) (rest := []) ⟨hx, hb, hml, hown, hts⟩ (c_X3_hasFeast l dC dI dA k m0 r σ th _ hY1 hr hOK ((fx xs (i + 1))) ((fx xs (i + 2))) (!decide (fx xs (i + 3) = 0)) (fx_rng _ _) (fx_rng _ _)) (cwV 3 hts (kg_V mw1332 mw1333 mw1334 mw47 rfl mw1335) rfl rfl rfl hdV_X3_hasFeast ⟨Nat.le_of_ble_eq_true rfl, Nat.le_of_ble_eq_true rfl⟩) ⟨fun a U g mk q => ⟨q.1, q.2.1, kM_call q.2.2⟩, va_recv hM.1 hY1 (ci := 6) (q0 := 0) rfl rfl, fun U hU hW => ⟨rfl, hU, kM_kept hM hS hN hU hW⟩⟩ rfl rfl hl.1 rfl (lv_room (Nat.le_of_ble_eq_true rfl)) dL_law_2337 ⟨kroomC (by omega), kroomS (by omega)⟩) hS (fun a _ h => kAy_N hr hkH1 a h) (fun a h => kAy_N hr hkH1 a h) (fun H2 locs hC2 hy8 hk8 hS => ?_)
  obtain ⟨r2, hI2, hO2⟩ := LI_step hI hG1 hO1 hC2 hk8 h8
  refine lv_istore (lv' := [(6, .int (iZ (bZ (decide (ex2 (!inb (fx xs (i + 1)) 0 3 || !inb (fx xs (i + 2)) 0 3) (false) = 0) && ((!(!decide (fx xs (i + 3) = 0)) && inYr σ ((fx xs (i + 2)).toNat) (σ 2 ((fx xs (i + 1)).toNat)))))))), (5, .int (iZ (ex2 (!inb (fx xs (i + 1)) 0 3 || !inb (fx xs (i + 2)) 0 3) (false)))), (4, .int (iZ i)), (3, .ref o), (2, .ref m0), (1, .ref (q 0)), (0, .ref b)]) hx hb dL_law_2340 hl (by decide) rfl (fun ls hl => ?_)
  refine lv_goto (tgt := 3011) hx hb dL_law_2342 (by decide) ?_
  refine W.widen (k := cs + 600) (n := ss + 4000) (by omega) (by omega) ?_
  exact kk r2 _ _ _ _ _ hI2 hS (by have h9 := h8.2; omega) (lv_sub hl [2, 3, 4, 5, 6] rfl)

set_option maxHeartbeats 4000000 in
set_option maxRecDepth 100000 in
theorem lc_39 {p : Program} {l : Launch} {e : Env} {s : State} {m : MethodId} {below : List Frame} {meth : Method} {c : Code} {Q : State → Prop} {b L : Nat} {xs : Nat → Int32} {dC : Nat → ClassId} {dI : Nat → Nat → Nat} {dA : Nat → ClassId} {k : Nat → Nat} (hst : l.stackTraces = false) (F : kF p s m meth c b L xs dC dI dA k)
    {q : Nat → Nat} {m0 : Nat} {r : Nat → Nat → Nat} {o : Nat} {σ : Nat → Nat → Int} {th : Int} {H : Heap} {locs : List Loc} {cs ss : Nat} {i : Int} {ls : Array Slot} (hI : LI dC dI dA k q m0 r o σ th H) (hS : va_S (kN0 k) s.heap H locs) (hi : 0 ≤ i ∧ i + 5 ≤ (L : Int)) (hcs : cs + 600 ≤ 652095) (hss : ss + 4000 ≤ 7139820) (h80 : 0 ≤ σ 8 0 ∧ σ 8 0 ≤ 100000) (hl : lv_has ls 7 [(4, .int (iZ i)), (3, .ref o), (2, .ref m0), (1, .ref (q 0)), (0, .ref b)])
    (kk : ∀ (r' : Nat → Nat → Nat) (σ' : Nat → Nat → Int) (th' : Int) (H' : Heap) (locs' : List Loc) (ls' : Array Slot), LI dC dI dA k q m0 r' o σ' th' H' → va_S (kN0 k) s.heap H' locs' → σ 8 0 ≤ σ' 8 0 ∧ σ' 8 0 ≤ σ 8 0 + 1 → lv_has ls' 7 [(4, .int (iZ i)), (3, .ref o), (2, .ref m0), (1, .ref (q 0)), (0, .ref b)] → W p l e room_1 s m #[Value.ref b] below meth c H' locs' (cs + 600) (ss + 4000) Q (F0 m 3011 ls' [])) :
    W p l e room_1 s m #[Value.ref b] below meth c H locs cs ss Q (F0 m 43 ls [.int (iZ 39)]) := by
  obtain ⟨hx, hb, hr9, hml, hown, hts, hX, hbl, hL5, hMJ, hL, hk0, hlocks⟩ := F
  obtain ⟨hG, hOK, hq, hY, hr, hO0, hko, ho9, h1, h2⟩ := id hI
  obtain ⟨sn, sv, -, hO⟩ := id hO0
  have hM := hMJ.1
  have hbA : ¬ kN0 k b := fun z => absurd (show k 0 ≤ b from z) (by omega)
  have hN : ∀ a, kN0 k a → k 0 ≤ a := fun _ h => h
  have hkH : k 0 ≤ H.size := by have := hS.1; omega
  refine lv_tableIn (tgt := 2345) (off := 2302) hx hb dL_law_43 (by rw [iZ_toInt (z := 39) (by omega)]; omega) (by rw [iZ_toInt (z := 39) (by omega)]; omega) (by rw [iZ_toInt (z := 39) (by omega)]; rfl) (by decide) ?_
  refine lv_aload_n hx hb dL_law_2345 rfl (lv_at hl 3 rfl) ?_
  refine lv_aload_n hx hb dL_law_2346 rfl (lv_at hl 4 rfl) ?_
  refine lv_iload hx hb dL_law_2347 (lv_at hl 0 rfl) ?_
  refine lv_iconst (v := iZ 1) hx hb dL_law_2349 rfl ?_
  refine kz_iadd hx hb dL_law_2350 ?_
  refine kz_sld hx hb hX hbl hbA hS (by omega) hL5 dL_law_2351 ?_
  refine lv_aload_n hx hb dL_law_2352 rfl (lv_at hl 4 rfl) ?_
  refine lv_iload hx hb dL_law_2353 (lv_at hl 0 rfl) ?_
  refine lv_iconst (v := iZ 2) hx hb dL_law_2355 rfl ?_
  refine kz_iadd hx hb dL_law_2356 ?_
  refine kz_sld hx hb hX hbl hbA hS (by omega) hL5 dL_law_2357 ?_
  refine lv_aload_n hx hb dL_law_2358 rfl (lv_at hl 4 rfl) ?_
  refine lv_iload hx hb dL_law_2359 (lv_at hl 0 rfl) ?_
  refine lv_iconst (v := iZ 3) hx hb dL_law_2361 rfl ?_
  refine kz_iadd hx hb dL_law_2362 ?_
  refine kz_sld hx hb hX hbl hbA hS (by omega) hL5 dL_law_2363 ?_
  refine lv_aload_n hx hb dL_law_2364 rfl (lv_at hl 1 rfl) ?_
  refine kc2 (vx_runSW (As := [.ref (q 0), .int (iZ (fx xs (i + 1))), .int (iZ (fx xs (i + 2))), .int (iZ (fx xs (i + 3))), .ref o]) (rest := []) ⟨hx, hb, hml, hown, hts⟩ (c_L_yearOrder l hst dC dI dA k q σ _ hG hOK hq o sn sv hO hko ho9 ((fx xs (i + 1))) ((fx xs (i + 2))) ((fx xs (i + 3))) (fx_rng _ _) (fx_rng _ _) (fx_rng _ _)) (vx_cwSW 5 hts (kg_S mw925 mw926 mw41 rfl mw927) rfl rfl rfl hdS_L_yearOrder ⟨Nat.le_of_ble_eq_true rfl, Nat.le_of_ble_eq_true rfl⟩) ⟨fun a U g mk q => ⟨q.1, q.2.1, kMJ_call q.2.2.1, kL_call q.2.2.2⟩, fun U hU hW => ⟨rfl, hU, kMJ_kept hMJ hS hN hU hW, kL_warm hL hW⟩⟩ rfl rfl hl.1 rfl (lv_room (Nat.le_of_ble_eq_true rfl)) dL_law_2365 ⟨kroomC (by omega), kroomS (by omega)⟩) hS (fun a _ h => kAO_N hq hko hkH a h) (fun a h => kAO_N hq hko hkH a h) (fun H1 locs hC hy9 hk9 hS => ?_)
  obtain ⟨hG1, hO1⟩ := hC
  have hY1 := kY_keptO hY hk9 h1 h2
  have hG1 := gX_cast hG1 (kif_same _)
  have h8 : kOK8 σ σ := ⟨hOK, rfl⟩
  have hkH1 : k 0 ≤ H1.size := Nat.le_trans hkH hy9
  clear hk9
  refine lv_istore (lv' := [(5, .int (iZ (ex2 (!inb (fx xs (i + 1)) 0 3 || !inb (fx xs (i + 2)) 0 3) (!inb (fx xs (i + 3)) 0 2)))), (4, .int (iZ i)), (3, .ref o), (2, .ref m0), (1, .ref (q 0)), (0, .ref b)]) hx hb dL_law_2368 hl (by decide) rfl (fun ls hl => ?_)
  refine lv_aload_n hx hb dL_law_2370 rfl (lv_at hl 3 rfl) ?_
  refine lv_aload_n hx hb dL_law_2371 rfl (lv_at hl 5 rfl) ?_
  refine lv_iload hx hb dL_law_2372 (lv_at hl 1 rfl) ?_
  refine lv_iconst (v := iZ 1) hx hb dL_law_2374 rfl ?_
  refine kz_iadd hx hb dL_law_2375 ?_
  refine kz_sld hx hb hX hbl hbA hS (by omega) hL5 dL_law_2376 ?_
  refine lv_aload_n hx hb dL_law_2377 rfl (lv_at hl 5 rfl) ?_
  refine lv_iload hx hb dL_law_2378 (lv_at hl 1 rfl) ?_
  refine lv_iconst (v := iZ 2) hx hb dL_law_2380 rfl ?_
  refine kz_iadd hx hb dL_law_2381 ?_
  refine kz_sld hx hb hX hbl hbA hS (by omega) hL5 dL_law_2382 ?_
  refine lv_aload_n hx hb dL_law_2383 rfl (lv_at hl 5 rfl) ?_
  refine lv_iload hx hb dL_law_2384 (lv_at hl 1 rfl) ?_
  refine lv_iconst (v := iZ 3) hx hb dL_law_2386 rfl ?_
  refine kz_iadd hx hb dL_law_2387 ?_
  refine kz_sld hx hb hX hbl hbA hS (by omega) hL5 dL_law_2388 ?_
  refine kc2 (va_runV (As := [.int (iZ (fx xs (i + 1))), .int (iZ (fx xs (i + 2))), .int (iZ (fx xs (i + 3)))]) (rest := []) ⟨hx, hb, hml, hown, hts⟩ (c_X3_yearOrder l dC dI dA k m0 r σ th _ hY1 hr hOK ((fx xs (i + 1))) ((fx xs (i + 2))) ((fx xs (i + 3))) (fx_rng _ _) (fx_rng _ _) (fx_rng _ _)) (cwV 3 hts (kg_V mw1336 mw1337 mw1338 mw47 rfl mw1339) rfl rfl rfl hdV_X3_yearOrder ⟨Nat.le_of_ble_eq_true rfl, Nat.le_of_ble_eq_true rfl⟩) ⟨fun a U g mk q => ⟨q.1, q.2.1, kM_call q.2.2⟩, va_recv hM.1 hY1 (ci := 6) (q0 := 0) rfl rfl, fun U hU hW => ⟨rfl, hU, kM_kept hM hS hN hU hW⟩⟩ rfl rfl hl.1 rfl (lv_room (Nat.le_of_ble_eq_true rfl)) dL_law_2389 ⟨kroomC (by omega), kroomS (by omega)⟩) hS (fun a _ h => kAy_N hr hkH1 a h) (fun a h => kAy_N hr hkH1 a h) (fun H2 locs hC2 hy8 hk8 hS => ?_)
  obtain ⟨r2, hI2, hO2⟩ := LI_step hI hG1 hO1 hC2 hk8 h8
  refine lv_istore (lv' := [(6, .int (iZ (if ex2 (!inb (fx xs (i + 1)) 0 3 || !inb (fx xs (i + 2)) 0 3) (!inb (fx xs (i + 3)) 0 2) = 0 then (ordT (σ 2 ((fx xs (i + 1)).toNat)) (σ 2 ((fx xs (i + 2)).toNat)) (fx xs (i + 3))) else 0))), (5, .int (iZ (ex2 (!inb (fx xs (i + 1)) 0 3 || !inb (fx xs (i + 2)) 0 3) (!inb (fx xs (i + 3)) 0 2)))), (4, .int (iZ i)), (3, .ref o), (2, .ref m0), (1, .ref (q 0)), (0, .ref b)]) hx hb dL_law_2392 hl (by decide) rfl (fun ls hl => ?_)
  refine lv_goto (tgt := 3011) hx hb dL_law_2394 (by decide) ?_
  refine W.widen (k := cs + 600) (n := ss + 4000) (by omega) (by omega) ?_
  exact kk r2 _ _ _ _ _ hI2 hS (by have h9 := h8.2; omega) (lv_sub hl [2, 3, 4, 5, 6] rfl)

set_option maxHeartbeats 4000000 in
set_option maxRecDepth 100000 in
theorem lc_40 {p : Program} {l : Launch} {e : Env} {s : State} {m : MethodId} {below : List Frame} {meth : Method} {c : Code} {Q : State → Prop} {b L : Nat} {xs : Nat → Int32} {dC : Nat → ClassId} {dI : Nat → Nat → Nat} {dA : Nat → ClassId} {k : Nat → Nat} (hst : l.stackTraces = false) (F : kF p s m meth c b L xs dC dI dA k)
    {q : Nat → Nat} {m0 : Nat} {r : Nat → Nat → Nat} {o : Nat} {σ : Nat → Nat → Int} {th : Int} {H : Heap} {locs : List Loc} {cs ss : Nat} {i : Int} {ls : Array Slot} (hI : LI dC dI dA k q m0 r o σ th H) (hS : va_S (kN0 k) s.heap H locs) (hi : 0 ≤ i ∧ i + 5 ≤ (L : Int)) (hcs : cs + 600 ≤ 652095) (hss : ss + 4000 ≤ 7139820) (h80 : 0 ≤ σ 8 0 ∧ σ 8 0 ≤ 100000) (hl : lv_has ls 7 [(4, .int (iZ i)), (3, .ref o), (2, .ref m0), (1, .ref (q 0)), (0, .ref b)])
    (kk : ∀ (r' : Nat → Nat → Nat) (σ' : Nat → Nat → Int) (th' : Int) (H' : Heap) (locs' : List Loc) (ls' : Array Slot), LI dC dI dA k q m0 r' o σ' th' H' → va_S (kN0 k) s.heap H' locs' → σ 8 0 ≤ σ' 8 0 ∧ σ' 8 0 ≤ σ 8 0 + 1 → lv_has ls' 7 [(4, .int (iZ i)), (3, .ref o), (2, .ref m0), (1, .ref (q 0)), (0, .ref b)] → W p l e room_1 s m #[Value.ref b] below meth c H' locs' (cs + 600) (ss + 4000) Q (F0 m 3011 ls' [])) :
    W p l e room_1 s m #[Value.ref b] below meth c H locs cs ss Q (F0 m 43 ls [.int (iZ 40)]) := by
  obtain ⟨hx, hb, hr9, hml, hown, hts, hX, hbl, hL5, hMJ, hL, hk0, hlocks⟩ := F
  obtain ⟨hG, hOK, hq, hY, hr, hO0, hko, ho9, h1, h2⟩ := id hI
  obtain ⟨sn, sv, -, hO⟩ := id hO0
  have hM := hMJ.1
  have hbA : ¬ kN0 k b := fun z => absurd (show k 0 ≤ b from z) (by omega)
  have hN : ∀ a, kN0 k a → k 0 ≤ a := fun _ h => h
  have hkH : k 0 ≤ H.size := by have := hS.1; omega
  refine lv_tableIn (tgt := 2397) (off := 2354) hx hb dL_law_43 (by rw [iZ_toInt (z := 40) (by omega)]; omega) (by rw [iZ_toInt (z := 40) (by omega)]; omega) (by rw [iZ_toInt (z := 40) (by omega)]; rfl) (by decide) ?_
  refine lv_aload_n hx hb dL_law_2397 rfl (lv_at hl 3 rfl) ?_
  refine lv_aload_n hx hb dL_law_2398 rfl (lv_at hl 4 rfl) ?_
  refine lv_iload hx hb dL_law_2399 (lv_at hl 0 rfl) ?_
  refine lv_iconst (v := iZ 1) hx hb dL_law_2401 rfl ?_
  refine kz_iadd hx hb dL_law_2402 ?_
  refine kz_sld hx hb hX hbl hbA hS (by omega) hL5 dL_law_2403 ?_
  refine lv_aload_n hx hb dL_law_2404 rfl (lv_at hl 4 rfl) ?_
  refine lv_iload hx hb dL_law_2405 (lv_at hl 0 rfl) ?_
  refine lv_iconst (v := iZ 2) hx hb dL_law_2407 rfl ?_
  refine kz_iadd hx hb dL_law_2408 ?_
  refine kz_sld hx hb hX hbl hbA hS (by omega) hL5 dL_law_2409 ?_
  refine lv_aload_n hx hb dL_law_2410 rfl (lv_at hl 4 rfl) ?_
  refine lv_iload hx hb dL_law_2411 (lv_at hl 0 rfl) ?_
  refine lv_iconst (v := iZ 3) hx hb dL_law_2413 rfl ?_
  refine kz_iadd hx hb dL_law_2414 ?_
  refine kz_sld hx hb hX hbl hbA hS (by omega) hL5 dL_law_2415 ?_
  refine lv_aload_n hx hb dL_law_2416 rfl (lv_at hl 1 rfl) ?_
  refine kc2 (vx_runSW (As := [.ref (q 0), .int (iZ (fx xs (i + 1))), .int (iZ (fx xs (i + 2))), .int (iZ (fx xs (i + 3))), .ref o]) (rest := []) ⟨hx, hb, hml, hown, hts⟩ (c_L_isYear l hst dC dI dA k q σ _ hG hOK hq o sn sv hO hko ho9 ((fx xs (i + 1))) ((fx xs (i + 2))) ((fx xs (i + 3))) (fx_rng _ _) (fx_rng _ _) (fx_rng _ _)) (vx_cwSW 5 hts (kg_S mw932 mw933 mw41 rfl mw934) rfl rfl rfl hdS_L_isYear ⟨Nat.le_of_ble_eq_true rfl, Nat.le_of_ble_eq_true rfl⟩) ⟨fun a U g mk q => ⟨q.1, q.2.1, kMJ_call q.2.2.1, kL_call q.2.2.2⟩, fun U hU hW => ⟨rfl, hU, kMJ_kept hMJ hS hN hU hW, kL_warm hL hW⟩⟩ rfl rfl hl.1 rfl (lv_room (Nat.le_of_ble_eq_true rfl)) dL_law_2417 ⟨kroomC (by omega), kroomS (by omega)⟩) hS (fun a _ h => kAO_N hq hko hkH a h) (fun a h => kAO_N hq hko hkH a h) (fun H1 locs hC hy9 hk9 hS => ?_)
  obtain ⟨hG1, hO1⟩ := hC
  have hY1 := kY_keptO hY hk9 h1 h2
  have hG1 := gX_cast hG1 (kif_same _)
  have h8 : kOK8 σ σ := ⟨hOK, rfl⟩
  have hkH1 : k 0 ≤ H1.size := Nat.le_trans hkH hy9
  clear hk9
  refine lv_istore (lv' := [(5, .int (iZ (ex2 (!inb (fx xs (i + 1)) 0 3 || !inb (fx xs (i + 3)) 0 3) (!inb (fx xs (i + 2)) 0 4)))), (4, .int (iZ i)), (3, .ref o), (2, .ref m0), (1, .ref (q 0)), (0, .ref b)]) hx hb dL_law_2420 hl (by decide) rfl (fun ls hl => ?_)
  refine lv_aload_n hx hb dL_law_2422 rfl (lv_at hl 3 rfl) ?_
  refine lv_aload_n hx hb dL_law_2423 rfl (lv_at hl 5 rfl) ?_
  refine lv_iload hx hb dL_law_2424 (lv_at hl 1 rfl) ?_
  refine lv_iconst (v := iZ 1) hx hb dL_law_2426 rfl ?_
  refine kz_iadd hx hb dL_law_2427 ?_
  refine kz_sld hx hb hX hbl hbA hS (by omega) hL5 dL_law_2428 ?_
  refine lv_aload_n hx hb dL_law_2429 rfl (lv_at hl 5 rfl) ?_
  refine lv_iload hx hb dL_law_2430 (lv_at hl 1 rfl) ?_
  refine lv_iconst (v := iZ 2) hx hb dL_law_2432 rfl ?_
  refine kz_iadd hx hb dL_law_2433 ?_
  refine kz_sld hx hb hX hbl hbA hS (by omega) hL5 dL_law_2434 ?_
  refine lv_aload_n hx hb dL_law_2435 rfl (lv_at hl 5 rfl) ?_
  refine lv_iload hx hb dL_law_2436 (lv_at hl 1 rfl) ?_
  refine lv_iconst (v := iZ 3) hx hb dL_law_2438 rfl ?_
  refine kz_iadd hx hb dL_law_2439 ?_
  refine kz_sld hx hb hX hbl hbA hS (by omega) hL5 dL_law_2440 ?_
  refine kc2 (va_runV (As := [.int (iZ (fx xs (i + 1))), .int (iZ (fx xs (i + 2))), .int (iZ (fx xs (i + 3)))]) (rest := []) ⟨hx, hb, hml, hown, hts⟩ (c_X3_isYear l dC dI dA k m0 r σ th _ hY1 hr hOK ((fx xs (i + 1))) ((fx xs (i + 2))) ((fx xs (i + 3))) (fx_rng _ _) (fx_rng _ _) (fx_rng _ _)) (cwV 3 hts (kg_V mw1340 mw1341 mw1342 mw47 rfl mw1343) rfl rfl rfl hdV_X3_isYear ⟨Nat.le_of_ble_eq_true rfl, Nat.le_of_ble_eq_true rfl⟩) ⟨fun a U g mk q => ⟨q.1, q.2.1, kM_call q.2.2⟩, va_recv hM.1 hY1 (ci := 6) (q0 := 0) rfl rfl, fun U hU hW => ⟨rfl, hU, kM_kept hM hS hN hU hW⟩⟩ rfl rfl hl.1 rfl (lv_room (Nat.le_of_ble_eq_true rfl)) dL_law_2441 ⟨kroomC (by omega), kroomS (by omega)⟩) hS (fun a _ h => kAy_N hr hkH1 a h) (fun a h => kAy_N hr hkH1 a h) (fun H2 locs hC2 hy8 hk8 hS => ?_)
  obtain ⟨r2, hI2, hO2⟩ := LI_step hI hG1 hO1 hC2 hk8 h8
  refine lv_istore (lv' := [(6, .int (iZ (bZ (decide (ex2 (!inb (fx xs (i + 1)) 0 3 || !inb (fx xs (i + 3)) 0 3) (!inb (fx xs (i + 2)) 0 4) = 0) && (decide ((fx xs (i + 2)) = 1 ∧ σ 2 ((fx xs (i + 1)).toNat) = σ 2 ((fx xs (i + 3)).toNat))))))), (5, .int (iZ (ex2 (!inb (fx xs (i + 1)) 0 3 || !inb (fx xs (i + 3)) 0 3) (!inb (fx xs (i + 2)) 0 4)))), (4, .int (iZ i)), (3, .ref o), (2, .ref m0), (1, .ref (q 0)), (0, .ref b)]) hx hb dL_law_2444 hl (by decide) rfl (fun ls hl => ?_)
  refine lv_goto (tgt := 3011) hx hb dL_law_2446 (by decide) ?_
  refine W.widen (k := cs + 600) (n := ss + 4000) (by omega) (by omega) ?_
  exact kk r2 _ _ _ _ _ hI2 hS (by have h9 := h8.2; omega) (lv_sub hl [2, 3, 4, 5, 6] rfl)

set_option maxHeartbeats 4000000 in
set_option maxRecDepth 100000 in
theorem lc_41 {p : Program} {l : Launch} {e : Env} {s : State} {m : MethodId} {below : List Frame} {meth : Method} {c : Code} {Q : State → Prop} {b L : Nat} {xs : Nat → Int32} {dC : Nat → ClassId} {dI : Nat → Nat → Nat} {dA : Nat → ClassId} {k : Nat → Nat} (hst : l.stackTraces = false) (F : kF p s m meth c b L xs dC dI dA k)
    {q : Nat → Nat} {m0 : Nat} {r : Nat → Nat → Nat} {o : Nat} {σ : Nat → Nat → Int} {th : Int} {H : Heap} {locs : List Loc} {cs ss : Nat} {i : Int} {ls : Array Slot} (hI : LI dC dI dA k q m0 r o σ th H) (hS : va_S (kN0 k) s.heap H locs) (hi : 0 ≤ i ∧ i + 5 ≤ (L : Int)) (hcs : cs + 600 ≤ 652095) (hss : ss + 4000 ≤ 7139820) (h80 : 0 ≤ σ 8 0 ∧ σ 8 0 ≤ 100000) (hl : lv_has ls 7 [(4, .int (iZ i)), (3, .ref o), (2, .ref m0), (1, .ref (q 0)), (0, .ref b)])
    (kk : ∀ (r' : Nat → Nat → Nat) (σ' : Nat → Nat → Int) (th' : Int) (H' : Heap) (locs' : List Loc) (ls' : Array Slot), LI dC dI dA k q m0 r' o σ' th' H' → va_S (kN0 k) s.heap H' locs' → σ 8 0 ≤ σ' 8 0 ∧ σ' 8 0 ≤ σ 8 0 + 1 → lv_has ls' 7 [(4, .int (iZ i)), (3, .ref o), (2, .ref m0), (1, .ref (q 0)), (0, .ref b)] → W p l e room_1 s m #[Value.ref b] below meth c H' locs' (cs + 600) (ss + 4000) Q (F0 m 3011 ls' [])) :
    W p l e room_1 s m #[Value.ref b] below meth c H locs cs ss Q (F0 m 43 ls [.int (iZ 41)]) := by
  obtain ⟨hx, hb, hr9, hml, hown, hts, hX, hbl, hL5, hMJ, hL, hk0, hlocks⟩ := F
  obtain ⟨hG, hOK, hq, hY, hr, hO0, hko, ho9, h1, h2⟩ := id hI
  obtain ⟨sn, sv, -, hO⟩ := id hO0
  have hM := hMJ.1
  have hbA : ¬ kN0 k b := fun z => absurd (show k 0 ≤ b from z) (by omega)
  have hN : ∀ a, kN0 k a → k 0 ≤ a := fun _ h => h
  have hkH : k 0 ≤ H.size := by have := hS.1; omega
  refine lv_tableIn (tgt := 2449) (off := 2406) hx hb dL_law_43 (by rw [iZ_toInt (z := 41) (by omega)]; omega) (by rw [iZ_toInt (z := 41) (by omega)]; omega) (by rw [iZ_toInt (z := 41) (by omega)]; rfl) (by decide) ?_
  refine lv_aload_n hx hb dL_law_2449 rfl (lv_at hl 3 rfl) ?_
  refine lv_aload_n hx hb dL_law_2450 rfl (lv_at hl 4 rfl) ?_
  refine lv_iload hx hb dL_law_2451 (lv_at hl 0 rfl) ?_
  refine lv_iconst (v := iZ 1) hx hb dL_law_2453 rfl ?_
  refine kz_iadd hx hb dL_law_2454 ?_
  refine kz_sld hx hb hX hbl hbA hS (by omega) hL5 dL_law_2455 ?_
  refine lv_aload_n hx hb dL_law_2456 rfl (lv_at hl 4 rfl) ?_
  refine lv_iload hx hb dL_law_2457 (lv_at hl 0 rfl) ?_
  refine lv_iconst (v := iZ 2) hx hb dL_law_2459 rfl ?_
  refine kz_iadd hx hb dL_law_2460 ?_
  refine kz_sld hx hb hX hbl hbA hS (by omega) hL5 dL_law_2461 ?_
  refine lv_aload_n hx hb dL_law_2462 rfl (lv_at hl 4 rfl) ?_
  refine lv_iload hx hb dL_law_2463 (lv_at hl 0 rfl) ?_
  refine lv_iconst (v := iZ 3) hx hb dL_law_2465 rfl ?_
  refine kz_iadd hx hb dL_law_2466 ?_
  refine kz_sld hx hb hX hbl hbA hS (by omega) hL5 dL_law_2467 ?_
  refine lv_aload_n hx hb dL_law_2468 rfl (lv_at hl 4 rfl) ?_
  refine lv_iload hx hb dL_law_2469 (lv_at hl 0 rfl) ?_
  refine lv_iconst (v := iZ 4) hx hb dL_law_2471 rfl ?_
  refine kz_iadd hx hb dL_law_2472 ?_
  refine kz_sld hx hb hX hbl hbA hS (by omega) hL5 dL_law_2473 ?_
  refine kz_b2i hx hb (fx_rng _ _) dL_law_2474 dL_law_2477 dL_law_2478 dL_law_2481 ?_
  refine lv_aload_n hx hb dL_law_2482 rfl (lv_at hl 1 rfl) ?_
  refine kc2 (vx_runSW (As := [.ref (q 0), .int (iZ (fx xs (i + 1))), .int (iZ (fx xs (i + 2))), .int (iZ (fx xs (i + 3))), .int (iZ (bZ (!decide (fx xs (i + 4) = 0)))), .ref o]) (rest := []) ⟨hx, hb, hml, hown, hts⟩ (c_L_yearTo l hst dC dI dA k q σ _ hG hOK hq o sn sv hO hko ho9 ((fx xs (i + 1))) ((fx xs (i + 2))) ((fx xs (i + 3))) (!decide (fx xs (i + 4) = 0)) (fx_rng _ _) (fx_rng _ _) (fx_rng _ _)) (vx_cwSW 6 hts (kg_S mw939 mw940 mw41 rfl mw941) rfl rfl rfl hdS_L_yearTo ⟨Nat.le_of_ble_eq_true rfl, Nat.le_of_ble_eq_true rfl⟩) ⟨fun a U g mk q => ⟨q.1, q.2.1, kMJ_call q.2.2.1, kL_call q.2.2.2⟩, fun U hU hW => ⟨rfl, hU, kMJ_kept hMJ hS hN hU hW, kL_warm hL hW⟩⟩ rfl rfl hl.1 rfl (lv_room (Nat.le_of_ble_eq_true rfl)) dL_law_2483 ⟨kroomC (by omega), kroomS (by omega)⟩) hS (fun a _ h => kAO_N hq hko hkH a h) (fun a h => kAO_N hq hko hkH a h) (fun H1 locs hC hy9 hk9 hS => ?_)
  obtain ⟨hG1, hO1⟩ := hC
  have hY1 := kY_keptO hY hk9 h1 h2
  have hG1 := gX_cast hG1 (kif_same _)
  have h8 : kOK8 σ σ := ⟨hOK, rfl⟩
  have hkH1 : k 0 ≤ H1.size := Nat.le_trans hkH hy9
  clear hk9
  refine lv_istore (lv' := [(5, .int (iZ (ex2 (!inb (fx xs (i + 1)) 0 3 || !inb (fx xs (i + 2)) 0 3) (!inb (fx xs (i + 3)) 1 4)))), (4, .int (iZ i)), (3, .ref o), (2, .ref m0), (1, .ref (q 0)), (0, .ref b)]) hx hb dL_law_2486 hl (by decide) rfl (fun ls hl => ?_)
  refine lv_aload_n hx hb dL_law_2488 rfl (lv_at hl 3 rfl) ?_
  refine lv_aload_n hx hb dL_law_2489 rfl (lv_at hl 5 rfl) ?_
  refine lv_iload hx hb dL_law_2490 (lv_at hl 1 rfl) ?_
  refine lv_iconst (v := iZ 1) hx hb dL_law_2492 rfl ?_
  refine kz_iadd hx hb dL_law_2493 ?_
  refine kz_sld hx hb hX hbl hbA hS (by omega) hL5 dL_law_2494 ?_
  refine lv_aload_n hx hb dL_law_2495 rfl (lv_at hl 5 rfl) ?_
  refine lv_iload hx hb dL_law_2496 (lv_at hl 1 rfl) ?_
  refine lv_iconst (v := iZ 2) hx hb dL_law_2498 rfl ?_
  refine kz_iadd hx hb dL_law_2499 ?_
  refine kz_sld hx hb hX hbl hbA hS (by omega) hL5 dL_law_2500 ?_
  refine lv_aload_n hx hb dL_law_2501 rfl (lv_at hl 5 rfl) ?_
  refine lv_iload hx hb dL_law_2502 (lv_at hl 1 rfl) ?_
  refine lv_iconst (v := iZ 3) hx hb dL_law_2504 rfl ?_
  refine kz_iadd hx hb dL_law_2505 ?_
  refine kz_sld hx hb hX hbl hbA hS (by omega) hL5 dL_law_2506 ?_
  refine lv_aload_n hx hb dL_law_2507 rfl (lv_at hl 5 rfl) ?_
  refine lv_iload hx hb dL_law_2508 (lv_at hl 1 rfl) ?_
  refine lv_iconst (v := iZ 4) hx hb dL_law_2510 rfl ?_
  refine kz_iadd hx hb dL_law_2511 ?_
  refine kz_sld hx hb hX hbl hbA hS (by omega) hL5 dL_law_2512 ?_
  refine kz_b2i hx hb (fx_rng _ _) dL_law_2513 dL_law_2516 dL_law_2517 dL_law_2520 ?_
  refine kc2r (va_runV (As := [.int (iZ (fx xs (i + 1))), .int (iZ (fx xs (i + 2))), .int (iZ (fx xs (i + 3))), .int (iZ (bZ (!decide (fx xs (i + 4) = 0))))]) (rest := []) ⟨hx, hb, hml, hown, hts⟩ (c_X3_yearTo l dC dI dA k m0 r σ th _ hY1 hr hOK ((fx xs (i + 1))) ((fx xs (i + 2))) ((fx xs (i + 3))) (!decide (fx xs (i + 4) = 0)) (fx_rng _ _) (fx_rng _ _) (fx_rng _ _)) (cwV 4 hts (kg_V mw1344 mw1345 mw1346 mw47 rfl mw1347) rfl rfl rfl hdV_X3_yearTo ⟨Nat.le_of_ble_eq_true rfl, Nat.le_of_ble_eq_true rfl⟩) ⟨fun a U g mk q => ⟨q.1, q.2.1, kMJ_call q.2.2⟩, va_recv hM.1 hY1 (ci := 6) (q0 := 0) rfl rfl, fun U hU hW => ⟨rfl, hU, kMJ_kept hMJ hS hN hU hW⟩⟩ rfl rfl hl.1 rfl (lv_room (Nat.le_of_ble_eq_true rfl)) dL_law_2521 ⟨kroomC (by omega), kroomS (by omega)⟩) hS (fun a _ h => kAy_N hr hkH1 a h) (fun a h => kAy_N hr hkH1 a h) (fun x9 H2 locs hC2 hy8 hk8 hS => ?_)
  obtain ⟨hC2, hT2⟩ := hC2
  have hC2 := gY_id (sz := H1.size) hr hC2
  obtain ⟨r2, hI2, -⟩ := LI_step hI hG1 (gOS_O hO1) hC2 hk8 h8
  have hO2 := gOS_step hI hO1 hk8
  refine lv_astore (lv' := [(6, .ref x9), (5, .int (iZ (ex2 (!inb (fx xs (i + 1)) 0 3 || !inb (fx xs (i + 2)) 0 3) (!inb (fx xs (i + 3)) 1 4)))), (4, .int (iZ i)), (3, .ref o), (2, .ref m0), (1, .ref (q 0)), (0, .ref b)]) hx hb dL_law_2524 hl (by decide) rfl (fun ls hl => ?_)
  refine lv_goto (tgt := 3011) hx hb dL_law_2526 (by decide) ?_
  refine W.widen (k := cs + 600) (n := ss + 4000) (by omega) (by omega) ?_
  exact kk r2 _ _ _ _ _ hI2 hS (by have h9 := h8.2; omega) (lv_sub hl [2, 3, 4, 5, 6] rfl)

