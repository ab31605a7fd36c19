def kCcX0_isLeapNumber_0 : List Nat := [30, 20, 0, 7, 113, 9, 148, 153, 0, 23, 30, 20, 0, 9, 113, 9, 148, 154, 0, 17, 30, 20, 0, 11, 113, 9, 148, 153, 0, 7, 4, 167]
def kCcX0_isLeapNumber_1 : List Nat := [0, 4, 3, 172]
def kRcX0_isLeapNumber_2 : List Nat := []
def kRcX0_isLeapNumber_1 : List Nat := kCcX0_isLeapNumber_1 ++ kRcX0_isLeapNumber_2
def kRcX0_isLeapNumber_0 : List Nat := kCcX0_isLeapNumber_0 ++ kRcX0_isLeapNumber_1
theorem kRcX0_isLeapNumber_eq : cX0_isLeapNumber.data.toList.map UInt8.toNat = kRcX0_isLeapNumber_0 := by decide +kernel
theorem katcX0_isLeapNumber_0 (i : Nat) : (cX0_isLeapNumber.data.toList.map UInt8.toNat)[0 + i]? = kRcX0_isLeapNumber_0[i]? := by rw [kRcX0_isLeapNumber_eq, Nat.zero_add]
theorem katcX0_isLeapNumber_1 : ∀ i : Nat, (cX0_isLeapNumber.data.toList.map UInt8.toNat)[32 + i]? = kRcX0_isLeapNumber_1[i]? := kstep katcX0_isLeapNumber_0 (C := kCcX0_isLeapNumber_0) rfl rfl
theorem kBcX0_isLeapNumber_0 {b : Nat} (p : Nat) (hp : Nat.ble 0 p = true) (h : kCcX0_isLeapNumber_0[p - 0]? = some b) : kb cX0_isLeapNumber p b := kin katcX0_isLeapNumber_0 rfl hp h
theorem kBcX0_isLeapNumber_1 {b : Nat} (p : Nat) (hp : Nat.ble 32 p = true) (h : kCcX0_isLeapNumber_1[p - 32]? = some b) : kb cX0_isLeapNumber p b := kin katcX0_isLeapNumber_1 rfl hp h
theorem dX0_isLeapNumber_0 : decode cX0_isLeapNumber 0 = .ok (.lload_n 0, 1) := dz_30 (kBcX0_isLeapNumber_0 0 rfl rfl)
theorem dX0_isLeapNumber_1 : decode cX0_isLeapNumber 1 = .ok (.ldc2_w 7, 3) := dz_20 (kBcX0_isLeapNumber_0 1 rfl rfl) (kBcX0_isLeapNumber_0 2 rfl rfl) (kBcX0_isLeapNumber_0 3 rfl rfl) rfl
theorem dX0_isLeapNumber_4 : decode cX0_isLeapNumber 4 = .ok (.lrem, 1) := dz_113 (kBcX0_isLeapNumber_0 4 rfl rfl)
theorem dX0_isLeapNumber_5 : decode cX0_isLeapNumber 5 = .ok (.lconst 0, 1) := dz_9 (kBcX0_isLeapNumber_0 5 rfl rfl)
theorem dX0_isLeapNumber_6 : decode cX0_isLeapNumber 6 = .ok (.lcmp, 1) := dz_148 (kBcX0_isLeapNumber_0 6 rfl rfl)
theorem dX0_isLeapNumber_7 : decode cX0_isLeapNumber 7 = .ok (.ifCond .eq 23, 3) := dz_153 (kBcX0_isLeapNumber_0 7 rfl rfl) (kBcX0_isLeapNumber_0 8 rfl rfl) (kBcX0_isLeapNumber_0 9 rfl rfl) rfl
theorem dX0_isLeapNumber_10 : decode cX0_isLeapNumber 10 = .ok (.lload_n 0, 1) := dz_30 (kBcX0_isLeapNumber_0 10 rfl rfl)
theorem dX0_isLeapNumber_11 : decode cX0_isLeapNumber 11 = .ok (.ldc2_w 9, 3) := dz_20 (kBcX0_isLeapNumber_0 11 rfl rfl) (kBcX0_isLeapNumber_0 12 rfl rfl) (kBcX0_isLeapNumber_0 13 rfl rfl) rfl
theorem dX0_isLeapNumber_14 : decode cX0_isLeapNumber 14 = .ok (.lrem, 1) := dz_113 (kBcX0_isLeapNumber_0 14 rfl rfl)
theorem dX0_isLeapNumber_15 : decode cX0_isLeapNumber 15 = .ok (.lconst 0, 1) := dz_9 (kBcX0_isLeapNumber_0 15 rfl rfl)
theorem dX0_isLeapNumber_16 : decode cX0_isLeapNumber 16 = .ok (.lcmp, 1) := dz_148 (kBcX0_isLeapNumber_0 16 rfl rfl)
theorem dX0_isLeapNumber_17 : decode cX0_isLeapNumber 17 = .ok (.ifCond .ne 17, 3) := dz_154 (kBcX0_isLeapNumber_0 17 rfl rfl) (kBcX0_isLeapNumber_0 18 rfl rfl) (kBcX0_isLeapNumber_0 19 rfl rfl) rfl
theorem dX0_isLeapNumber_20 : decode cX0_isLeapNumber 20 = .ok (.lload_n 0, 1) := dz_30 (kBcX0_isLeapNumber_0 20 rfl rfl)
theorem dX0_isLeapNumber_21 : decode cX0_isLeapNumber 21 = .ok (.ldc2_w 11, 3) := dz_20 (kBcX0_isLeapNumber_0 21 rfl rfl) (kBcX0_isLeapNumber_0 22 rfl rfl) (kBcX0_isLeapNumber_0 23 rfl rfl) rfl
theorem dX0_isLeapNumber_24 : decode cX0_isLeapNumber 24 = .ok (.lrem, 1) := dz_113 (kBcX0_isLeapNumber_0 24 rfl rfl)
theorem dX0_isLeapNumber_25 : decode cX0_isLeapNumber 25 = .ok (.lconst 0, 1) := dz_9 (kBcX0_isLeapNumber_0 25 rfl rfl)
theorem dX0_isLeapNumber_26 : decode cX0_isLeapNumber 26 = .ok (.lcmp, 1) := dz_148 (kBcX0_isLeapNumber_0 26 rfl rfl)
theorem dX0_isLeapNumber_27 : decode cX0_isLeapNumber 27 = .ok (.ifCond .eq 7, 3) := dz_153 (kBcX0_isLeapNumber_0 27 rfl rfl) (kBcX0_isLeapNumber_0 28 rfl rfl) (kBcX0_isLeapNumber_0 29 rfl rfl) rfl
theorem dX0_isLeapNumber_30 : decode cX0_isLeapNumber 30 = .ok (.iconst 1, 1) := dz_4 (kBcX0_isLeapNumber_0 30 rfl rfl)
theorem dX0_isLeapNumber_31 : decode cX0_isLeapNumber 31 = .ok (.goto 4, 3) := dz_167 (kBcX0_isLeapNumber_0 31 rfl rfl) (kBcX0_isLeapNumber_1 32 rfl rfl) (kBcX0_isLeapNumber_1 33 rfl rfl) rfl
theorem dX0_isLeapNumber_34 : decode cX0_isLeapNumber 34 = .ok (.iconst 0, 1) := dz_3 (kBcX0_isLeapNumber_1 34 rfl rfl)
theorem dX0_isLeapNumber_35 : decode cX0_isLeapNumber 35 = .ok (.ireturn, 1) := dz_172 (kBcX0_isLeapNumber_1 35 rfl rfl)
def kCcX0_yearLength_0 : List Nat := [30, 184, 0, 13, 153, 0, 9, 17, 1, 110, 167, 0, 6, 17, 1, 109, 172]
theorem kRcX0_yearLength_eq : cX0_yearLength.data.toList.map UInt8.toNat = kCcX0_yearLength_0 := by decide +kernel
theorem dX0_yearLength_0 : decode cX0_yearLength 0 = .ok (.lload_n 0, 1) := dz_30 (kin0 (p := 0) kRcX0_yearLength_eq rfl)
theorem dX0_yearLength_1 : decode cX0_yearLength 1 = .ok (.invokestatic 13, 3) := dz_184 (kin0 (p := 1) kRcX0_yearLength_eq rfl) (kin0 (p := 2) kRcX0_yearLength_eq rfl) (kin0 (p := 3) kRcX0_yearLength_eq rfl) rfl
theorem dX0_yearLength_4 : decode cX0_yearLength 4 = .ok (.ifCond .eq 9, 3) := dz_153 (kin0 (p := 4) kRcX0_yearLength_eq rfl) (kin0 (p := 5) kRcX0_yearLength_eq rfl) (kin0 (p := 6) kRcX0_yearLength_eq rfl) rfl
theorem dX0_yearLength_7 : decode cX0_yearLength 7 = .ok (.sipush 366, 3) := dz_17 (kin0 (p := 7) kRcX0_yearLength_eq rfl) (kin0 (p := 8) kRcX0_yearLength_eq rfl) (kin0 (p := 9) kRcX0_yearLength_eq rfl) rfl
theorem dX0_yearLength_10 : decode cX0_yearLength 10 = .ok (.goto 6, 3) := dz_167 (kin0 (p := 10) kRcX0_yearLength_eq rfl) (kin0 (p := 11) kRcX0_yearLength_eq rfl) (kin0 (p := 12) kRcX0_yearLength_eq rfl) rfl
theorem dX0_yearLength_13 : decode cX0_yearLength 13 = .ok (.sipush 365, 3) := dz_17 (kin0 (p := 13) kRcX0_yearLength_eq rfl) (kin0 (p := 14) kRcX0_yearLength_eq rfl) (kin0 (p := 15) kRcX0_yearLength_eq rfl) rfl
theorem dX0_yearLength_16 : decode cX0_yearLength 16 = .ok (.ireturn, 1) := dz_172 (kin0 (p := 16) kRcX0_yearLength_eq rfl)
def kCcX0_sideOf_0 : List Nat := [26, 158, 0, 7, 4, 167, 0, 4, 3, 172]
theorem kRcX0_sideOf_eq : cX0_sideOf.data.toList.map UInt8.toNat = kCcX0_sideOf_0 := by decide +kernel
theorem dX0_sideOf_0 : decode cX0_sideOf 0 = .ok (.iload_n 0, 1) := dz_26 (kin0 (p := 0) kRcX0_sideOf_eq rfl)
theorem dX0_sideOf_1 : decode cX0_sideOf 1 = .ok (.ifCond .le 7, 3) := dz_158 (kin0 (p := 1) kRcX0_sideOf_eq rfl) (kin0 (p := 2) kRcX0_sideOf_eq rfl) (kin0 (p := 3) kRcX0_sideOf_eq rfl) rfl
theorem dX0_sideOf_4 : decode cX0_sideOf 4 = .ok (.iconst 1, 1) := dz_4 (kin0 (p := 4) kRcX0_sideOf_eq rfl)
theorem dX0_sideOf_5 : decode cX0_sideOf 5 = .ok (.goto 4, 3) := dz_167 (kin0 (p := 5) kRcX0_sideOf_eq rfl) (kin0 (p := 6) kRcX0_sideOf_eq rfl) (kin0 (p := 7) kRcX0_sideOf_eq rfl) rfl
theorem dX0_sideOf_8 : decode cX0_sideOf 8 = .ok (.iconst 0, 1) := dz_3 (kin0 (p := 8) kRcX0_sideOf_eq rfl)
theorem dX0_sideOf_9 : decode cX0_sideOf 9 = .ok (.ireturn, 1) := dz_172 (kin0 (p := 9) kRcX0_sideOf_eq rfl)
def kCcX0_rankOf_0 : List Nat := [26, 158, 0, 7, 26, 167, 0, 6, 4, 26, 100, 172]
theorem kRcX0_rankOf_eq : cX0_rankOf.data.toList.map UInt8.toNat = kCcX0_rankOf_0 := by decide +kernel
theorem dX0_rankOf_0 : decode cX0_rankOf 0 = .ok (.iload_n 0, 1) := dz_26 (kin0 (p := 0) kRcX0_rankOf_eq rfl)
theorem dX0_rankOf_1 : decode cX0_rankOf 1 = .ok (.ifCond .le 7, 3) := dz_158 (kin0 (p := 1) kRcX0_rankOf_eq rfl) (kin0 (p := 2) kRcX0_rankOf_eq rfl) (kin0 (p := 3) kRcX0_rankOf_eq rfl) rfl
theorem dX0_rankOf_4 : decode cX0_rankOf 4 = .ok (.iload_n 0, 1) := dz_26 (kin0 (p := 4) kRcX0_rankOf_eq rfl)
theorem dX0_rankOf_5 : decode cX0_rankOf 5 = .ok (.goto 6, 3) := dz_167 (kin0 (p := 5) kRcX0_rankOf_eq rfl) (kin0 (p := 6) kRcX0_rankOf_eq rfl) (kin0 (p := 7) kRcX0_rankOf_eq rfl) rfl
theorem dX0_rankOf_8 : decode cX0_rankOf 8 = .ok (.iconst 1, 1) := dz_4 (kin0 (p := 8) kRcX0_rankOf_eq rfl)
theorem dX0_rankOf_9 : decode cX0_rankOf 9 = .ok (.iload_n 0, 1) := dz_26 (kin0 (p := 9) kRcX0_rankOf_eq rfl)
theorem dX0_rankOf_10 : decode cX0_rankOf 10 = .ok (.isub, 1) := dz_100 (kin0 (p := 10) kRcX0_rankOf_eq rfl)
theorem dX0_rankOf_11 : decode cX0_rankOf 11 = .ok (.ireturn, 1) := dz_172 (kin0 (p := 11) kRcX0_rankOf_eq rfl)
def kCcX0_yearOfRank_0 : List Nat := [27, 4, 160, 0, 7, 26, 167, 0, 6, 4, 26, 100, 172]
theorem kRcX0_yearOfRank_eq : cX0_yearOfRank.data.toList.map UInt8.toNat = kCcX0_yearOfRank_0 := by decide +kernel
theorem dX0_yearOfRank_0 : decode cX0_yearOfRank 0 = .ok (.iload_n 1, 1) := dz_27 (kin0 (p := 0) kRcX0_yearOfRank_eq rfl)
theorem dX0_yearOfRank_1 : decode cX0_yearOfRank 1 = .ok (.iconst 1, 1) := dz_4 (kin0 (p := 1) kRcX0_yearOfRank_eq rfl)
theorem dX0_yearOfRank_2 : decode cX0_yearOfRank 2 = .ok (.if_icmp .ne 7, 3) := dz_160 (kin0 (p := 2) kRcX0_yearOfRank_eq rfl) (kin0 (p := 3) kRcX0_yearOfRank_eq rfl) (kin0 (p := 4) kRcX0_yearOfRank_eq rfl) rfl
theorem dX0_yearOfRank_5 : decode cX0_yearOfRank 5 = .ok (.iload_n 0, 1) := dz_26 (kin0 (p := 5) kRcX0_yearOfRank_eq rfl)
theorem dX0_yearOfRank_6 : decode cX0_yearOfRank 6 = .ok (.goto 6, 3) := dz_167 (kin0 (p := 6) kRcX0_yearOfRank_eq rfl) (kin0 (p := 7) kRcX0_yearOfRank_eq rfl) (kin0 (p := 8) kRcX0_yearOfRank_eq rfl) rfl
theorem dX0_yearOfRank_9 : decode cX0_yearOfRank 9 = .ok (.iconst 1, 1) := dz_4 (kin0 (p := 9) kRcX0_yearOfRank_eq rfl)
theorem dX0_yearOfRank_10 : decode cX0_yearOfRank 10 = .ok (.iload_n 0, 1) := dz_26 (kin0 (p := 10) kRcX0_yearOfRank_eq rfl)
theorem dX0_yearOfRank_11 : decode cX0_yearOfRank 11 = .ok (.isub, 1) := dz_100 (kin0 (p := 11) kRcX0_yearOfRank_eq rfl)
theorem dX0_yearOfRank_12 : decode cX0_yearOfRank 12 = .ok (.ireturn, 1) := dz_172 (kin0 (p := 12) kRcX0_yearOfRank_eq rfl)
def kCcX0_yearWithThing_0 : List Nat := [27, 171, 0, 0, 0, 0, 0, 38, 0, 0, 0, 2, 0, 0, 0, 0, 0, 0, 0, 27, 0, 0, 0, 1, 0, 0, 0, 29, 28, 172, 28, 26]
def kCcX0_yearWithThing_1 : List Nat := [184, 0, 19, 184, 0, 23, 172, 26, 184, 0, 27, 28, 184, 0, 23, 172]
def kRcX0_yearWithThing_2 : List Nat := []
def kRcX0_yearWithThing_1 : List Nat := kCcX0_yearWithThing_1 ++ kRcX0_yearWithThing_2
def kRcX0_yearWithThing_0 : List Nat := kCcX0_yearWithThing_0 ++ kRcX0_yearWithThing_1
theorem kRcX0_yearWithThing_eq : cX0_yearWithThing.data.toList.map UInt8.toNat = kRcX0_yearWithThing_0 := by decide +kernel
theorem katcX0_yearWithThing_0 (i : Nat) : (cX0_yearWithThing.data.toList.map UInt8.toNat)[0 + i]? = kRcX0_yearWithThing_0[i]? := by rw [kRcX0_yearWithThing_eq, Nat.zero_add]
theorem katcX0_yearWithThing_1 : ∀ i : Nat, (cX0_yearWithThing.data.toList.map UInt8.toNat)[32 + i]? = kRcX0_yearWithThing_1[i]? := kstep katcX0_yearWithThing_0 (C := kCcX0_yearWithThing_0) rfl rfl
theorem kBcX0_yearWithThing_0 {b : Nat} (p : Nat) (hp : Nat.ble 0 p = true) (h : kCcX0_yearWithThing_0[p - 0]? = some b) : kb cX0_yearWithThing p b := kin katcX0_yearWithThing_0 rfl hp h
theorem kBcX0_yearWithThing_1 {b : Nat} (p : Nat) (hp : Nat.ble 32 p = true) (h : kCcX0_yearWithThing_1[p - 32]? = some b) : kb cX0_yearWithThing p b := kin katcX0_yearWithThing_1 rfl hp h
theorem dX0_yearWithThing_0 : decode cX0_yearWithThing 0 = .ok (.iload_n 1, 1) := dz_27 (kBcX0_yearWithThing_0 0 rfl rfl)
theorem dX0_yearWithThing_1 : decode cX0_yearWithThing 1 = .ok (.lookupswitch 38 #[(0, 27), (1, 29)], 27) := by decide +kernel
theorem dX0_yearWithThing_28 : decode cX0_yearWithThing 28 = .ok (.iload_n 2, 1) := dz_28 (kBcX0_yearWithThing_0 28 rfl rfl)
theorem dX0_yearWithThing_29 : decode cX0_yearWithThing 29 = .ok (.ireturn, 1) := dz_172 (kBcX0_yearWithThing_0 29 rfl rfl)
theorem dX0_yearWithThing_30 : decode cX0_yearWithThing 30 = .ok (.iload_n 2, 1) := dz_28 (kBcX0_yearWithThing_0 30 rfl rfl)
theorem dX0_yearWithThing_31 : decode cX0_yearWithThing 31 = .ok (.iload_n 0, 1) := dz_26 (kBcX0_yearWithThing_0 31 rfl rfl)
theorem dX0_yearWithThing_32 : decode cX0_yearWithThing 32 = .ok (.invokestatic 19, 3) := dz_184 (kBcX0_yearWithThing_1 32 rfl rfl) (kBcX0_yearWithThing_1 33 rfl rfl) (kBcX0_yearWithThing_1 34 rfl rfl) rfl
theorem dX0_yearWithThing_35 : decode cX0_yearWithThing 35 = .ok (.invokestatic 23, 3) := dz_184 (kBcX0_yearWithThing_1 35 rfl rfl) (kBcX0_yearWithThing_1 36 rfl rfl) (kBcX0_yearWithThing_1 37 rfl rfl) rfl
theorem dX0_yearWithThing_38 : decode cX0_yearWithThing 38 = .ok (.ireturn, 1) := dz_172 (kBcX0_yearWithThing_1 38 rfl rfl)
theorem dX0_yearWithThing_39 : decode cX0_yearWithThing 39 = .ok (.iload_n 0, 1) := dz_26 (kBcX0_yearWithThing_1 39 rfl rfl)
theorem dX0_yearWithThing_40 : decode cX0_yearWithThing 40 = .ok (.invokestatic 27, 3) := dz_184 (kBcX0_yearWithThing_1 40 rfl rfl) (kBcX0_yearWithThing_1 41 rfl rfl) (kBcX0_yearWithThing_1 42 rfl rfl) rfl
theorem dX0_yearWithThing_43 : decode cX0_yearWithThing 43 = .ok (.iload_n 2, 1) := dz_28 (kBcX0_yearWithThing_1 43 rfl rfl)
theorem dX0_yearWithThing_44 : decode cX0_yearWithThing 44 = .ok (.invokestatic 23, 3) := dz_184 (kBcX0_yearWithThing_1 44 rfl rfl) (kBcX0_yearWithThing_1 45 rfl rfl) (kBcX0_yearWithThing_1 46 rfl rfl) rfl
theorem dX0_yearWithThing_47 : decode cX0_yearWithThing 47 = .ok (.ireturn, 1) := dz_172 (kBcX0_yearWithThing_1 47 rfl rfl)
def kCcX0_monthLength_0 : List Nat := [26, 170, 0, 0, 0, 0, 0, 70, 0, 0, 0, 2, 0, 0, 0, 11, 0, 0, 0, 55, 0, 0, 0, 70, 0, 0, 0, 67, 0, 0, 0, 70]
def kCcX0_monthLength_1 : List Nat := [0, 0, 0, 67, 0, 0, 0, 70, 0, 0, 0, 70, 0, 0, 0, 67, 0, 0, 0, 70, 0, 0, 0, 67, 27, 153, 0, 8, 16, 29, 167, 0]
def kCcX0_monthLength_2 : List Nat := [5, 16, 28, 172, 16, 30, 172, 16, 31, 172]
def kRcX0_monthLength_3 : List Nat := []
def kRcX0_monthLength_2 : List Nat := kCcX0_monthLength_2 ++ kRcX0_monthLength_3
def kRcX0_monthLength_1 : List Nat := kCcX0_monthLength_1 ++ kRcX0_monthLength_2
def kRcX0_monthLength_0 : List Nat := kCcX0_monthLength_0 ++ kRcX0_monthLength_1
theorem kRcX0_monthLength_eq : cX0_monthLength.data.toList.map UInt8.toNat = kRcX0_monthLength_0 := by decide +kernel
theorem katcX0_monthLength_0 (i : Nat) : (cX0_monthLength.data.toList.map UInt8.toNat)[0 + i]? = kRcX0_monthLength_0[i]? := by rw [kRcX0_monthLength_eq, Nat.zero_add]
theorem katcX0_monthLength_1 : ∀ i : Nat, (cX0_monthLength.data.toList.map UInt8.toNat)[32 + i]? = kRcX0_monthLength_1[i]? := kstep katcX0_monthLength_0 (C := kCcX0_monthLength_0) rfl rfl
theorem katcX0_monthLength_2 : ∀ i : Nat, (cX0_monthLength.data.toList.map UInt8.toNat)[64 + i]? = kRcX0_monthLength_2[i]? := kstep katcX0_monthLength_1 (C := kCcX0_monthLength_1) rfl rfl
theorem kBcX0_monthLength_0 {b : Nat} (p : Nat) (hp : Nat.ble 0 p = true) (h : kCcX0_monthLength_0[p - 0]? = some b) : kb cX0_monthLength p b := kin katcX0_monthLength_0 rfl hp h
theorem kBcX0_monthLength_1 {b : Nat} (p : Nat) (hp : Nat.ble 32 p = true) (h : kCcX0_monthLength_1[p - 32]? = some b) : kb cX0_monthLength p b := kin katcX0_monthLength_1 rfl hp h
theorem kBcX0_monthLength_2 {b : Nat} (p : Nat) (hp : Nat.ble 64 p = true) (h : kCcX0_monthLength_2[p - 64]? = some b) : kb cX0_monthLength p b := kin katcX0_monthLength_2 rfl hp h
theorem dX0_monthLength_0 : decode cX0_monthLength 0 = .ok (.iload_n 0, 1) := dz_26 (kBcX0_monthLength_0 0 rfl rfl)
theorem dX0_monthLength_1 : decode cX0_monthLength 1 = .ok (.tableswitch 70 2 11 #[55, 70, 67, 70, 67, 70, 70, 67, 70, 67], 55) := by decide +kernel
theorem dX0_monthLength_56 : decode cX0_monthLength 56 = .ok (.iload_n 1, 1) := dz_27 (kBcX0_monthLength_1 56 rfl rfl)
theorem dX0_monthLength_57 : decode cX0_monthLength 57 = .ok (.ifCond .eq 8, 3) := dz_153 (kBcX0_monthLength_1 57 rfl rfl) (kBcX0_monthLength_1 58 rfl rfl) (kBcX0_monthLength_1 59 rfl rfl) rfl
theorem dX0_monthLength_60 : decode cX0_monthLength 60 = .ok (.bipush 29, 2) := dz_16 (kBcX0_monthLength_1 60 rfl rfl) (kBcX0_monthLength_1 61 rfl rfl) rfl
theorem dX0_monthLength_62 : decode cX0_monthLength 62 = .ok (.goto 5, 3) := dz_167 (kBcX0_monthLength_1 62 rfl rfl) (kBcX0_monthLength_1 63 rfl rfl) (kBcX0_monthLength_2 64 rfl rfl) rfl
theorem dX0_monthLength_65 : decode cX0_monthLength 65 = .ok (.bipush 28, 2) := dz_16 (kBcX0_monthLength_2 65 rfl rfl) (kBcX0_monthLength_2 66 rfl rfl) rfl
theorem dX0_monthLength_67 : decode cX0_monthLength 67 = .ok (.ireturn, 1) := dz_172 (kBcX0_monthLength_2 67 rfl rfl)
theorem dX0_monthLength_68 : decode cX0_monthLength 68 = .ok (.bipush 30, 2) := dz_16 (kBcX0_monthLength_2 68 rfl rfl) (kBcX0_monthLength_2 69 rfl rfl) rfl
theorem dX0_monthLength_70 : decode cX0_monthLength 70 = .ok (.ireturn, 1) := dz_172 (kBcX0_monthLength_2 70 rfl rfl)
theorem dX0_monthLength_71 : decode cX0_monthLength 71 = .ok (.bipush 31, 2) := dz_16 (kBcX0_monthLength_2 71 rfl rfl) (kBcX0_monthLength_2 72 rfl rfl) rfl
theorem dX0_monthLength_73 : decode cX0_monthLength 73 = .ok (.ireturn, 1) := dz_172 (kBcX0_monthLength_2 73 rfl rfl)
def kCcX0_monthBehindFirst_0 : List Nat := [4, 26, 16, 12, 184, 0, 30, 96, 172]
theorem kRcX0_monthBehindFirst_eq : cX0_monthBehindFirst.data.toList.map UInt8.toNat = kCcX0_monthBehindFirst_0 := by decide +kernel
theorem dX0_monthBehindFirst_0 : decode cX0_monthBehindFirst 0 = .ok (.iconst 1, 1) := dz_4 (kin0 (p := 0) kRcX0_monthBehindFirst_eq rfl)
theorem dX0_monthBehindFirst_1 : decode cX0_monthBehindFirst 1 = .ok (.iload_n 0, 1) := dz_26 (kin0 (p := 1) kRcX0_monthBehindFirst_eq rfl)
theorem dX0_monthBehindFirst_2 : decode cX0_monthBehindFirst 2 = .ok (.bipush 12, 2) := dz_16 (kin0 (p := 2) kRcX0_monthBehindFirst_eq rfl) (kin0 (p := 3) kRcX0_monthBehindFirst_eq rfl) rfl
theorem dX0_monthBehindFirst_4 : decode cX0_monthBehindFirst 4 = .ok (.invokestatic 30, 3) := dz_184 (kin0 (p := 4) kRcX0_monthBehindFirst_eq rfl) (kin0 (p := 5) kRcX0_monthBehindFirst_eq rfl) (kin0 (p := 6) kRcX0_monthBehindFirst_eq rfl) rfl
theorem dX0_monthBehindFirst_7 : decode cX0_monthBehindFirst 7 = .ok (.iadd, 1) := dz_96 (kin0 (p := 7) kRcX0_monthBehindFirst_eq rfl)
theorem dX0_monthBehindFirst_8 : decode cX0_monthBehindFirst 8 = .ok (.ireturn, 1) := dz_172 (kin0 (p := 8) kRcX0_monthBehindFirst_eq rfl)
def kCcX0_isInEachYear_0 : List Nat := [26, 5, 160, 0, 9, 27, 16, 28, 163, 0, 7, 4, 167, 0, 4, 3, 172]
theorem kRcX0_isInEachYear_eq : cX0_isInEachYear.data.toList.map UInt8.toNat = kCcX0_isInEachYear_0 := by decide +kernel
theorem dX0_isInEachYear_0 : decode cX0_isInEachYear 0 = .ok (.iload_n 0, 1) := dz_26 (kin0 (p := 0) kRcX0_isInEachYear_eq rfl)
theorem dX0_isInEachYear_1 : decode cX0_isInEachYear 1 = .ok (.iconst 2, 1) := dz_5 (kin0 (p := 1) kRcX0_isInEachYear_eq rfl)
theorem dX0_isInEachYear_2 : decode cX0_isInEachYear 2 = .ok (.if_icmp .ne 9, 3) := dz_160 (kin0 (p := 2) kRcX0_isInEachYear_eq rfl) (kin0 (p := 3) kRcX0_isInEachYear_eq rfl) (kin0 (p := 4) kRcX0_isInEachYear_eq rfl) rfl
theorem dX0_isInEachYear_5 : decode cX0_isInEachYear 5 = .ok (.iload_n 1, 1) := dz_27 (kin0 (p := 5) kRcX0_isInEachYear_eq rfl)
theorem dX0_isInEachYear_6 : decode cX0_isInEachYear 6 = .ok (.bipush 28, 2) := dz_16 (kin0 (p := 6) kRcX0_isInEachYear_eq rfl) (kin0 (p := 7) kRcX0_isInEachYear_eq rfl) rfl
theorem dX0_isInEachYear_8 : decode cX0_isInEachYear 8 = .ok (.if_icmp .gt 7, 3) := dz_163 (kin0 (p := 8) kRcX0_isInEachYear_eq rfl) (kin0 (p := 9) kRcX0_isInEachYear_eq rfl) (kin0 (p := 10) kRcX0_isInEachYear_eq rfl) rfl
theorem dX0_isInEachYear_11 : decode cX0_isInEachYear 11 = .ok (.iconst 1, 1) := dz_4 (kin0 (p := 11) kRcX0_isInEachYear_eq rfl)
theorem dX0_isInEachYear_12 : decode cX0_isInEachYear 12 = .ok (.goto 4, 3) := dz_167 (kin0 (p := 12) kRcX0_isInEachYear_eq rfl) (kin0 (p := 13) kRcX0_isInEachYear_eq rfl) (kin0 (p := 14) kRcX0_isInEachYear_eq rfl) rfl
theorem dX0_isInEachYear_15 : decode cX0_isInEachYear 15 = .ok (.iconst 0, 1) := dz_3 (kin0 (p := 15) kRcX0_isInEachYear_eq rfl)
theorem dX0_isInEachYear_16 : decode cX0_isInEachYear 16 = .ok (.ireturn, 1) := dz_172 (kin0 (p := 16) kRcX0_isInEachYear_eq rfl)
def kCcX0_countOf_0 : List Nat := [20, 0, 35, 26, 133, 105, 27, 133, 97, 10, 101, 173]
theorem kRcX0_countOf_eq : cX0_countOf.data.toList.map UInt8.toNat = kCcX0_countOf_0 := by decide +kernel
theorem dX0_countOf_0 : decode cX0_countOf 0 = .ok (.ldc2_w 35, 3) := dz_20 (kin0 (p := 0) kRcX0_countOf_eq rfl) (kin0 (p := 1) kRcX0_countOf_eq rfl) (kin0 (p := 2) kRcX0_countOf_eq rfl) rfl
theorem dX0_countOf_3 : decode cX0_countOf 3 = .ok (.iload_n 0, 1) := dz_26 (kin0 (p := 3) kRcX0_countOf_eq rfl)
theorem dX0_countOf_4 : decode cX0_countOf 4 = .ok (.i2l, 1) := dz_133 (kin0 (p := 4) kRcX0_countOf_eq rfl)
theorem dX0_countOf_5 : decode cX0_countOf 5 = .ok (.lmul, 1) := dz_105 (kin0 (p := 5) kRcX0_countOf_eq rfl)
theorem dX0_countOf_6 : decode cX0_countOf 6 = .ok (.iload_n 1, 1) := dz_27 (kin0 (p := 6) kRcX0_countOf_eq rfl)
theorem dX0_countOf_7 : decode cX0_countOf 7 = .ok (.i2l, 1) := dz_133 (kin0 (p := 7) kRcX0_countOf_eq rfl)
theorem dX0_countOf_8 : decode cX0_countOf 8 = .ok (.ladd, 1) := dz_97 (kin0 (p := 8) kRcX0_countOf_eq rfl)
theorem dX0_countOf_9 : decode cX0_countOf 9 = .ok (.lconst 1, 1) := dz_10 (kin0 (p := 9) kRcX0_countOf_eq rfl)
theorem dX0_countOf_10 : decode cX0_countOf 10 = .ok (.lsub, 1) := dz_101 (kin0 (p := 10) kRcX0_countOf_eq rfl)
theorem dX0_countOf_11 : decode cX0_countOf 11 = .ok (.lreturn, 1) := dz_173 (kin0 (p := 11) kRcX0_countOf_eq rfl)
def kCcX0_yearOfCount_0 : List Nat := [30, 20, 0, 35, 184, 0, 37, 136, 172]
theorem kRcX0_yearOfCount_eq : cX0_yearOfCount.data.toList.map UInt8.toNat = kCcX0_yearOfCount_0 := by decide +kernel
theorem dX0_yearOfCount_0 : decode cX0_yearOfCount 0 = .ok (.lload_n 0, 1) := dz_30 (kin0 (p := 0) kRcX0_yearOfCount_eq rfl)
theorem dX0_yearOfCount_1 : decode cX0_yearOfCount 1 = .ok (.ldc2_w 35, 3) := dz_20 (kin0 (p := 1) kRcX0_yearOfCount_eq rfl) (kin0 (p := 2) kRcX0_yearOfCount_eq rfl) (kin0 (p := 3) kRcX0_yearOfCount_eq rfl) rfl
theorem dX0_yearOfCount_4 : decode cX0_yearOfCount 4 = .ok (.invokestatic 37, 3) := dz_184 (kin0 (p := 4) kRcX0_yearOfCount_eq rfl) (kin0 (p := 5) kRcX0_yearOfCount_eq rfl) (kin0 (p := 6) kRcX0_yearOfCount_eq rfl) rfl
theorem dX0_yearOfCount_7 : decode cX0_yearOfCount 7 = .ok (.l2i, 1) := dz_136 (kin0 (p := 7) kRcX0_yearOfCount_eq rfl)
theorem dX0_yearOfCount_8 : decode cX0_yearOfCount 8 = .ok (.ireturn, 1) := dz_172 (kin0 (p := 8) kRcX0_yearOfCount_eq rfl)
def kCcX0_monthOf_0 : List Nat := [4, 30, 20, 0, 35, 184, 0, 41, 136, 96, 172]
theorem kRcX0_monthOf_eq : cX0_monthOf.data.toList.map UInt8.toNat = kCcX0_monthOf_0 := by decide +kernel
theorem dX0_monthOf_0 : decode cX0_monthOf 0 = .ok (.iconst 1, 1) := dz_4 (kin0 (p := 0) kRcX0_monthOf_eq rfl)
theorem dX0_monthOf_1 : decode cX0_monthOf 1 = .ok (.lload_n 0, 1) := dz_30 (kin0 (p := 1) kRcX0_monthOf_eq rfl)
theorem dX0_monthOf_2 : decode cX0_monthOf 2 = .ok (.ldc2_w 35, 3) := dz_20 (kin0 (p := 2) kRcX0_monthOf_eq rfl) (kin0 (p := 3) kRcX0_monthOf_eq rfl) (kin0 (p := 4) kRcX0_monthOf_eq rfl) rfl
theorem dX0_monthOf_5 : decode cX0_monthOf 5 = .ok (.invokestatic 41, 3) := dz_184 (kin0 (p := 5) kRcX0_monthOf_eq rfl) (kin0 (p := 6) kRcX0_monthOf_eq rfl) (kin0 (p := 7) kRcX0_monthOf_eq rfl) rfl
theorem dX0_monthOf_8 : decode cX0_monthOf 8 = .ok (.l2i, 1) := dz_136 (kin0 (p := 8) kRcX0_monthOf_eq rfl)
theorem dX0_monthOf_9 : decode cX0_monthOf 9 = .ok (.iadd, 1) := dz_96 (kin0 (p := 9) kRcX0_monthOf_eq rfl)
theorem dX0_monthOf_10 : decode cX0_monthOf 10 = .ok (.ireturn, 1) := dz_172 (kin0 (p := 10) kRcX0_monthOf_eq rfl)
def kCcX0_lengthOf_0 : List Nat := [30, 184, 0, 43, 30, 184, 0, 47, 133, 184, 0, 13, 184, 0, 50, 172]
theorem kRcX0_lengthOf_eq : cX0_lengthOf.data.toList.map UInt8.toNat = kCcX0_lengthOf_0 := by decide +kernel
theorem dX0_lengthOf_0 : decode cX0_lengthOf 0 = .ok (.lload_n 0, 1) := dz_30 (kin0 (p := 0) kRcX0_lengthOf_eq rfl)
theorem dX0_lengthOf_1 : decode cX0_lengthOf 1 = .ok (.invokestatic 43, 3) := dz_184 (kin0 (p := 1) kRcX0_lengthOf_eq rfl) (kin0 (p := 2) kRcX0_lengthOf_eq rfl) (kin0 (p := 3) kRcX0_lengthOf_eq rfl) rfl
theorem dX0_lengthOf_4 : decode cX0_lengthOf 4 = .ok (.lload_n 0, 1) := dz_30 (kin0 (p := 4) kRcX0_lengthOf_eq rfl)
theorem dX0_lengthOf_5 : decode cX0_lengthOf 5 = .ok (.invokestatic 47, 3) := dz_184 (kin0 (p := 5) kRcX0_lengthOf_eq rfl) (kin0 (p := 6) kRcX0_lengthOf_eq rfl) (kin0 (p := 7) kRcX0_lengthOf_eq rfl) rfl
theorem dX0_lengthOf_8 : decode cX0_lengthOf 8 = .ok (.i2l, 1) := dz_133 (kin0 (p := 8) kRcX0_lengthOf_eq rfl)
theorem dX0_lengthOf_9 : decode cX0_lengthOf 9 = .ok (.invokestatic 13, 3) := dz_184 (kin0 (p := 9) kRcX0_lengthOf_eq rfl) (kin0 (p := 10) kRcX0_lengthOf_eq rfl) (kin0 (p := 11) kRcX0_lengthOf_eq rfl) rfl
theorem dX0_lengthOf_12 : decode cX0_lengthOf 12 = .ok (.invokestatic 50, 3) := dz_184 (kin0 (p := 12) kRcX0_lengthOf_eq rfl) (kin0 (p := 13) kRcX0_lengthOf_eq rfl) (kin0 (p := 14) kRcX0_lengthOf_eq rfl) rfl
theorem dX0_lengthOf_15 : decode cX0_lengthOf 15 = .ok (.ireturn, 1) := dz_172 (kin0 (p := 15) kRcX0_lengthOf_eq rfl)
def kCcX0_isDayOfCount_0 : List Nat := [28, 4, 161, 0, 15, 28, 30, 184, 0, 54, 163, 0, 7, 4, 167, 0, 4, 3, 172]
theorem kRcX0_isDayOfCount_eq : cX0_isDayOfCount.data.toList.map UInt8.toNat = kCcX0_isDayOfCount_0 := by decide +kernel
theorem dX0_isDayOfCount_0 : decode cX0_isDayOfCount 0 = .ok (.iload_n 2, 1) := dz_28 (kin0 (p := 0) kRcX0_isDayOfCount_eq rfl)
theorem dX0_isDayOfCount_1 : decode cX0_isDayOfCount 1 = .ok (.iconst 1, 1) := dz_4 (kin0 (p := 1) kRcX0_isDayOfCount_eq rfl)
theorem dX0_isDayOfCount_2 : decode cX0_isDayOfCount 2 = .ok (.if_icmp .lt 15, 3) := dz_161 (kin0 (p := 2) kRcX0_isDayOfCount_eq rfl) (kin0 (p := 3) kRcX0_isDayOfCount_eq rfl) (kin0 (p := 4) kRcX0_isDayOfCount_eq rfl) rfl
theorem dX0_isDayOfCount_5 : decode cX0_isDayOfCount 5 = .ok (.iload_n 2, 1) := dz_28 (kin0 (p := 5) kRcX0_isDayOfCount_eq rfl)
theorem dX0_isDayOfCount_6 : decode cX0_isDayOfCount 6 = .ok (.lload_n 0, 1) := dz_30 (kin0 (p := 6) kRcX0_isDayOfCount_eq rfl)
theorem dX0_isDayOfCount_7 : decode cX0_isDayOfCount 7 = .ok (.invokestatic 54, 3) := dz_184 (kin0 (p := 7) kRcX0_isDayOfCount_eq rfl) (kin0 (p := 8) kRcX0_isDayOfCount_eq rfl) (kin0 (p := 9) kRcX0_isDayOfCount_eq rfl) rfl
theorem dX0_isDayOfCount_10 : decode cX0_isDayOfCount 10 = .ok (.if_icmp .gt 7, 3) := dz_163 (kin0 (p := 10) kRcX0_isDayOfCount_eq rfl) (kin0 (p := 11) kRcX0_isDayOfCount_eq rfl) (kin0 (p := 12) kRcX0_isDayOfCount_eq rfl) rfl
theorem dX0_isDayOfCount_13 : decode cX0_isDayOfCount 13 = .ok (.iconst 1, 1) := dz_4 (kin0 (p := 13) kRcX0_isDayOfCount_eq rfl)
theorem dX0_isDayOfCount_14 : decode cX0_isDayOfCount 14 = .ok (.goto 4, 3) := dz_167 (kin0 (p := 14) kRcX0_isDayOfCount_eq rfl) (kin0 (p := 15) kRcX0_isDayOfCount_eq rfl) (kin0 (p := 16) kRcX0_isDayOfCount_eq rfl) rfl
theorem dX0_isDayOfCount_17 : decode cX0_isDayOfCount 17 = .ok (.iconst 0, 1) := dz_3 (kin0 (p := 17) kRcX0_isDayOfCount_eq rfl)
theorem dX0_isDayOfCount_18 : decode cX0_isDayOfCount 18 = .ok (.ireturn, 1) := dz_172 (kin0 (p := 18) kRcX0_isDayOfCount_eq rfl)
def kCcX0_daysAheadOf_0 : List Nat := [3, 61, 4, 62, 29, 26, 162, 0, 17, 28, 29, 27, 184, 0, 50, 96, 61, 132, 3, 1, 167, 255, 240, 28, 172]
theorem kRcX0_daysAheadOf_eq : cX0_daysAheadOf.data.toList.map UInt8.toNat = kCcX0_daysAheadOf_0 := by decide +kernel
theorem dX0_daysAheadOf_0 : decode cX0_daysAheadOf 0 = .ok (.iconst 0, 1) := dz_3 (kin0 (p := 0) kRcX0_daysAheadOf_eq rfl)
theorem dX0_daysAheadOf_1 : decode cX0_daysAheadOf 1 = .ok (.istore_n 2, 1) := dz_61 (kin0 (p := 1) kRcX0_daysAheadOf_eq rfl)
theorem dX0_daysAheadOf_2 : decode cX0_daysAheadOf 2 = .ok (.iconst 1, 1) := dz_4 (kin0 (p := 2) kRcX0_daysAheadOf_eq rfl)
theorem dX0_daysAheadOf_3 : decode cX0_daysAheadOf 3 = .ok (.istore_n 3, 1) := dz_62 (kin0 (p := 3) kRcX0_daysAheadOf_eq rfl)
theorem dX0_daysAheadOf_4 : decode cX0_daysAheadOf 4 = .ok (.iload_n 3, 1) := dz_29 (kin0 (p := 4) kRcX0_daysAheadOf_eq rfl)
theorem dX0_daysAheadOf_5 : decode cX0_daysAheadOf 5 = .ok (.iload_n 0, 1) := dz_26 (kin0 (p := 5) kRcX0_daysAheadOf_eq rfl)
theorem dX0_daysAheadOf_6 : decode cX0_daysAheadOf 6 = .ok (.if_icmp .ge 17, 3) := dz_162 (kin0 (p := 6) kRcX0_daysAheadOf_eq rfl) (kin0 (p := 7) kRcX0_daysAheadOf_eq rfl) (kin0 (p := 8) kRcX0_daysAheadOf_eq rfl) rfl
theorem dX0_daysAheadOf_9 : decode cX0_daysAheadOf 9 = .ok (.iload_n 2, 1) := dz_28 (kin0 (p := 9) kRcX0_daysAheadOf_eq rfl)
theorem dX0_daysAheadOf_10 : decode cX0_daysAheadOf 10 = .ok (.iload_n 3, 1) := dz_29 (kin0 (p := 10) kRcX0_daysAheadOf_eq rfl)
theorem dX0_daysAheadOf_11 : decode cX0_daysAheadOf 11 = .ok (.iload_n 1, 1) := dz_27 (kin0 (p := 11) kRcX0_daysAheadOf_eq rfl)
theorem dX0_daysAheadOf_12 : decode cX0_daysAheadOf 12 = .ok (.invokestatic 50, 3) := dz_184 (kin0 (p := 12) kRcX0_daysAheadOf_eq rfl) (kin0 (p := 13) kRcX0_daysAheadOf_eq rfl) (kin0 (p := 14) kRcX0_daysAheadOf_eq rfl) rfl
theorem dX0_daysAheadOf_15 : decode cX0_daysAheadOf 15 = .ok (.iadd, 1) := dz_96 (kin0 (p := 15) kRcX0_daysAheadOf_eq rfl)
theorem dX0_daysAheadOf_16 : decode cX0_daysAheadOf 16 = .ok (.istore_n 2, 1) := dz_61 (kin0 (p := 16) kRcX0_daysAheadOf_eq rfl)
theorem dX0_daysAheadOf_17 : decode cX0_daysAheadOf 17 = .ok (.iinc 3 1, 3) := dz_132 (kin0 (p := 17) kRcX0_daysAheadOf_eq rfl) (kin0 (p := 18) kRcX0_daysAheadOf_eq rfl) (kin0 (p := 19) kRcX0_daysAheadOf_eq rfl) rfl
theorem dX0_daysAheadOf_20 : decode cX0_daysAheadOf 20 = .ok (.goto (-16), 3) := dz_167 (kin0 (p := 20) kRcX0_daysAheadOf_eq rfl) (kin0 (p := 21) kRcX0_daysAheadOf_eq rfl) (kin0 (p := 22) kRcX0_daysAheadOf_eq rfl) rfl
theorem dX0_daysAheadOf_23 : decode cX0_daysAheadOf 23 = .ok (.iload_n 2, 1) := dz_28 (kin0 (p := 23) kRcX0_daysAheadOf_eq rfl)
theorem dX0_daysAheadOf_24 : decode cX0_daysAheadOf 24 = .ok (.ireturn, 1) := dz_172 (kin0 (p := 24) kRcX0_daysAheadOf_eq rfl)
def kCcX0_monthOfPlace_0 : List Nat := [4, 61, 28, 16, 12, 162, 0, 20, 26, 28, 4, 96, 27, 184, 0, 57, 164, 0, 9, 132, 2, 1, 167, 255, 236, 28, 172]
theorem kRcX0_monthOfPlace_eq : cX0_monthOfPlace.data.toList.map UInt8.toNat = kCcX0_monthOfPlace_0 := by decide +kernel
theorem dX0_monthOfPlace_0 : decode cX0_monthOfPlace 0 = .ok (.iconst 1, 1) := dz_4 (kin0 (p := 0) kRcX0_monthOfPlace_eq rfl)
theorem dX0_monthOfPlace_1 : decode cX0_monthOfPlace 1 = .ok (.istore_n 2, 1) := dz_61 (kin0 (p := 1) kRcX0_monthOfPlace_eq rfl)
theorem dX0_monthOfPlace_2 : decode cX0_monthOfPlace 2 = .ok (.iload_n 2, 1) := dz_28 (kin0 (p := 2) kRcX0_monthOfPlace_eq rfl)
theorem dX0_monthOfPlace_3 : decode cX0_monthOfPlace 3 = .ok (.bipush 12, 2) := dz_16 (kin0 (p := 3) kRcX0_monthOfPlace_eq rfl) (kin0 (p := 4) kRcX0_monthOfPlace_eq rfl) rfl
theorem dX0_monthOfPlace_5 : decode cX0_monthOfPlace 5 = .ok (.if_icmp .ge 20, 3) := dz_162 (kin0 (p := 5) kRcX0_monthOfPlace_eq rfl) (kin0 (p := 6) kRcX0_monthOfPlace_eq rfl) (kin0 (p := 7) kRcX0_monthOfPlace_eq rfl) rfl
theorem dX0_monthOfPlace_8 : decode cX0_monthOfPlace 8 = .ok (.iload_n 0, 1) := dz_26 (kin0 (p := 8) kRcX0_monthOfPlace_eq rfl)
theorem dX0_monthOfPlace_9 : decode cX0_monthOfPlace 9 = .ok (.iload_n 2, 1) := dz_28 (kin0 (p := 9) kRcX0_monthOfPlace_eq rfl)
theorem dX0_monthOfPlace_10 : decode cX0_monthOfPlace 10 = .ok (.iconst 1, 1) := dz_4 (kin0 (p := 10) kRcX0_monthOfPlace_eq rfl)
theorem dX0_monthOfPlace_11 : decode cX0_monthOfPlace 11 = .ok (.iadd, 1) := dz_96 (kin0 (p := 11) kRcX0_monthOfPlace_eq rfl)
theorem dX0_monthOfPlace_12 : decode cX0_monthOfPlace 12 = .ok (.iload_n 1, 1) := dz_27 (kin0 (p := 12) kRcX0_monthOfPlace_eq rfl)
theorem dX0_monthOfPlace_13 : decode cX0_monthOfPlace 13 = .ok (.invokestatic 57, 3) := dz_184 (kin0 (p := 13) kRcX0_monthOfPlace_eq rfl) (kin0 (p := 14) kRcX0_monthOfPlace_eq rfl) (kin0 (p := 15) kRcX0_monthOfPlace_eq rfl) rfl
theorem dX0_monthOfPlace_16 : decode cX0_monthOfPlace 16 = .ok (.if_icmp .le 9, 3) := dz_164 (kin0 (p := 16) kRcX0_monthOfPlace_eq rfl) (kin0 (p := 17) kRcX0_monthOfPlace_eq rfl) (kin0 (p := 18) kRcX0_monthOfPlace_eq rfl) rfl
theorem dX0_monthOfPlace_19 : decode cX0_monthOfPlace 19 = .ok (.iinc 2 1, 3) := dz_132 (kin0 (p := 19) kRcX0_monthOfPlace_eq rfl) (kin0 (p := 20) kRcX0_monthOfPlace_eq rfl) (kin0 (p := 21) kRcX0_monthOfPlace_eq rfl) rfl
theorem dX0_monthOfPlace_22 : decode cX0_monthOfPlace 22 = .ok (.goto (-20), 3) := dz_167 (kin0 (p := 22) kRcX0_monthOfPlace_eq rfl) (kin0 (p := 23) kRcX0_monthOfPlace_eq rfl) (kin0 (p := 24) kRcX0_monthOfPlace_eq rfl) rfl
theorem dX0_monthOfPlace_25 : decode cX0_monthOfPlace 25 = .ok (.iload_n 2, 1) := dz_28 (kin0 (p := 25) kRcX0_monthOfPlace_eq rfl)
theorem dX0_monthOfPlace_26 : decode cX0_monthOfPlace 26 = .ok (.ireturn, 1) := dz_172 (kin0 (p := 26) kRcX0_monthOfPlace_eq rfl)
def kCcX0_placeOf_0 : List Nat := [30, 184, 0, 43, 30, 184, 0, 47, 133, 184, 0, 13, 184, 0, 57, 28, 96, 172]
theorem kRcX0_placeOf_eq : cX0_placeOf.data.toList.map UInt8.toNat = kCcX0_placeOf_0 := by decide +kernel
theorem dX0_placeOf_0 : decode cX0_placeOf 0 = .ok (.lload_n 0, 1) := dz_30 (kin0 (p := 0) kRcX0_placeOf_eq rfl)
theorem dX0_placeOf_1 : decode cX0_placeOf 1 = .ok (.invokestatic 43, 3) := dz_184 (kin0 (p := 1) kRcX0_placeOf_eq rfl) (kin0 (p := 2) kRcX0_placeOf_eq rfl) (kin0 (p := 3) kRcX0_placeOf_eq rfl) rfl
theorem dX0_placeOf_4 : decode cX0_placeOf 4 = .ok (.lload_n 0, 1) := dz_30 (kin0 (p := 4) kRcX0_placeOf_eq rfl)
theorem dX0_placeOf_5 : decode cX0_placeOf 5 = .ok (.invokestatic 47, 3) := dz_184 (kin0 (p := 5) kRcX0_placeOf_eq rfl) (kin0 (p := 6) kRcX0_placeOf_eq rfl) (kin0 (p := 7) kRcX0_placeOf_eq rfl) rfl
theorem dX0_placeOf_8 : decode cX0_placeOf 8 = .ok (.i2l, 1) := dz_133 (kin0 (p := 8) kRcX0_placeOf_eq rfl)
theorem dX0_placeOf_9 : decode cX0_placeOf 9 = .ok (.invokestatic 13, 3) := dz_184 (kin0 (p := 9) kRcX0_placeOf_eq rfl) (kin0 (p := 10) kRcX0_placeOf_eq rfl) (kin0 (p := 11) kRcX0_placeOf_eq rfl) rfl
theorem dX0_placeOf_12 : decode cX0_placeOf 12 = .ok (.invokestatic 57, 3) := dz_184 (kin0 (p := 12) kRcX0_placeOf_eq rfl) (kin0 (p := 13) kRcX0_placeOf_eq rfl) (kin0 (p := 14) kRcX0_placeOf_eq rfl) rfl
theorem dX0_placeOf_15 : decode cX0_placeOf 15 = .ok (.iload_n 2, 1) := dz_28 (kin0 (p := 15) kRcX0_placeOf_eq rfl)
theorem dX0_placeOf_16 : decode cX0_placeOf 16 = .ok (.iadd, 1) := dz_96 (kin0 (p := 16) kRcX0_placeOf_eq rfl)
theorem dX0_placeOf_17 : decode cX0_placeOf 17 = .ok (.ireturn, 1) := dz_172 (kin0 (p := 17) kRcX0_placeOf_eq rfl)
def kCcX0_dayNumberOf_0 : List Nat := [30, 184, 0, 47, 133, 66, 33, 10, 101, 55, 5, 22, 5, 20, 0, 9, 184, 0, 37, 22, 5, 20, 0, 11, 184, 0, 37, 101, 22, 5, 20, 0]
def kCcX0_dayNumberOf_1 : List Nat := [7, 184, 0, 37, 97, 10, 97, 55, 7, 30, 184, 0, 43, 33, 184, 0, 13, 184, 0, 57, 54, 9, 20, 0, 60, 20, 0, 62, 33, 105, 97, 22]
def kCcX0_dayNumberOf_2 : List Nat := [7, 97, 21, 9, 133, 97, 28, 133, 97, 10, 101, 173]
def kRcX0_dayNumberOf_3 : List Nat := []
def kRcX0_dayNumberOf_2 : List Nat := kCcX0_dayNumberOf_2 ++ kRcX0_dayNumberOf_3
def kRcX0_dayNumberOf_1 : List Nat := kCcX0_dayNumberOf_1 ++ kRcX0_dayNumberOf_2
def kRcX0_dayNumberOf_0 : List Nat := kCcX0_dayNumberOf_0 ++ kRcX0_dayNumberOf_1
theorem kRcX0_dayNumberOf_eq : cX0_dayNumberOf.data.toList.map UInt8.toNat = kRcX0_dayNumberOf_0 := by decide +kernel
theorem katcX0_dayNumberOf_0 (i : Nat) : (cX0_dayNumberOf.data.toList.map UInt8.toNat)[0 + i]? = kRcX0_dayNumberOf_0[i]? := by rw [kRcX0_dayNumberOf_eq, Nat.zero_add]
theorem katcX0_dayNumberOf_1 : ∀ i : Nat, (cX0_dayNumberOf.data.toList.map UInt8.toNat)[32 + i]? = kRcX0_dayNumberOf_1[i]? := kstep katcX0_dayNumberOf_0 (C := kCcX0_dayNumberOf_0) rfl rfl
theorem katcX0_dayNumberOf_2 : ∀ i : Nat, (cX0_dayNumberOf.data.toList.map UInt8.toNat)[64 + i]? = kRcX0_dayNumberOf_2[i]? := kstep katcX0_dayNumberOf_1 (C := kCcX0_dayNumberOf_1) rfl rfl
theorem kBcX0_dayNumberOf_0 {b : Nat} (p : Nat) (hp : Nat.ble 0 p = true) (h : kCcX0_dayNumberOf_0[p - 0]? = some b) : kb cX0_dayNumberOf p b := kin katcX0_dayNumberOf_0 rfl hp h
theorem kBcX0_dayNumberOf_1 {b : Nat} (p : Nat) (hp : Nat.ble 32 p = true) (h : kCcX0_dayNumberOf_1[p - 32]? = some b) : kb cX0_dayNumberOf p b := kin katcX0_dayNumberOf_1 rfl hp h
theorem kBcX0_dayNumberOf_2 {b : Nat} (p : Nat) (hp : Nat.ble 64 p = true) (h : kCcX0_dayNumberOf_2[p - 64]? = some b) : kb cX0_dayNumberOf p b := kin katcX0_dayNumberOf_2 rfl hp h
theorem dX0_dayNumberOf_0 : decode cX0_dayNumberOf 0 = .ok (.lload_n 0, 1) := dz_30 (kBcX0_dayNumberOf_0 0 rfl rfl)
theorem dX0_dayNumberOf_1 : decode cX0_dayNumberOf 1 = .ok (.invokestatic 47, 3) := dz_184 (kBcX0_dayNumberOf_0 1 rfl rfl) (kBcX0_dayNumberOf_0 2 rfl rfl) (kBcX0_dayNumberOf_0 3 rfl rfl) rfl
theorem dX0_dayNumberOf_4 : decode cX0_dayNumberOf 4 = .ok (.i2l, 1) := dz_133 (kBcX0_dayNumberOf_0 4 rfl rfl)
theorem dX0_dayNumberOf_5 : decode cX0_dayNumberOf 5 = .ok (.lstore_n 3, 1) := dz_66 (kBcX0_dayNumberOf_0 5 rfl rfl)
theorem dX0_dayNumberOf_6 : decode cX0_dayNumberOf 6 = .ok (.lload_n 3, 1) := dz_33 (kBcX0_dayNumberOf_0 6 rfl rfl)
theorem dX0_dayNumberOf_7 : decode cX0_dayNumberOf 7 = .ok (.lconst 1, 1) := dz_10 (kBcX0_dayNumberOf_0 7 rfl rfl)
theorem dX0_dayNumberOf_8 : decode cX0_dayNumberOf 8 = .ok (.lsub, 1) := dz_101 (kBcX0_dayNumberOf_0 8 rfl rfl)
theorem dX0_dayNumberOf_9 : decode cX0_dayNumberOf 9 = .ok (.lstore 5, 2) := dz_55 (kBcX0_dayNumberOf_0 9 rfl rfl) (kBcX0_dayNumberOf_0 10 rfl rfl)
theorem dX0_dayNumberOf_11 : decode cX0_dayNumberOf 11 = .ok (.lload 5, 2) := dz_22 (kBcX0_dayNumberOf_0 11 rfl rfl) (kBcX0_dayNumberOf_0 12 rfl rfl)
theorem dX0_dayNumberOf_13 : decode cX0_dayNumberOf 13 = .ok (.ldc2_w 9, 3) := dz_20 (kBcX0_dayNumberOf_0 13 rfl rfl) (kBcX0_dayNumberOf_0 14 rfl rfl) (kBcX0_dayNumberOf_0 15 rfl rfl) rfl
theorem dX0_dayNumberOf_16 : decode cX0_dayNumberOf 16 = .ok (.invokestatic 37, 3) := dz_184 (kBcX0_dayNumberOf_0 16 rfl rfl) (kBcX0_dayNumberOf_0 17 rfl rfl) (kBcX0_dayNumberOf_0 18 rfl rfl) rfl
theorem dX0_dayNumberOf_19 : decode cX0_dayNumberOf 19 = .ok (.lload 5, 2) := dz_22 (kBcX0_dayNumberOf_0 19 rfl rfl) (kBcX0_dayNumberOf_0 20 rfl rfl)
theorem dX0_dayNumberOf_21 : decode cX0_dayNumberOf 21 = .ok (.ldc2_w 11, 3) := dz_20 (kBcX0_dayNumberOf_0 21 rfl rfl) (kBcX0_dayNumberOf_0 22 rfl rfl) (kBcX0_dayNumberOf_0 23 rfl rfl) rfl
theorem dX0_dayNumberOf_24 : decode cX0_dayNumberOf 24 = .ok (.invokestatic 37, 3) := dz_184 (kBcX0_dayNumberOf_0 24 rfl rfl) (kBcX0_dayNumberOf_0 25 rfl rfl) (kBcX0_dayNumberOf_0 26 rfl rfl) rfl
theorem dX0_dayNumberOf_27 : decode cX0_dayNumberOf 27 = .ok (.lsub, 1) := dz_101 (kBcX0_dayNumberOf_0 27 rfl rfl)
theorem dX0_dayNumberOf_28 : decode cX0_dayNumberOf 28 = .ok (.lload 5, 2) := dz_22 (kBcX0_dayNumberOf_0 28 rfl rfl) (kBcX0_dayNumberOf_0 29 rfl rfl)
theorem dX0_dayNumberOf_30 : decode cX0_dayNumberOf 30 = .ok (.ldc2_w 7, 3) := dz_20 (kBcX0_dayNumberOf_0 30 rfl rfl) (kBcX0_dayNumberOf_0 31 rfl rfl) (kBcX0_dayNumberOf_1 32 rfl rfl) rfl
theorem dX0_dayNumberOf_33 : decode cX0_dayNumberOf 33 = .ok (.invokestatic 37, 3) := dz_184 (kBcX0_dayNumberOf_1 33 rfl rfl) (kBcX0_dayNumberOf_1 34 rfl rfl) (kBcX0_dayNumberOf_1 35 rfl rfl) rfl
theorem dX0_dayNumberOf_36 : decode cX0_dayNumberOf 36 = .ok (.ladd, 1) := dz_97 (kBcX0_dayNumberOf_1 36 rfl rfl)
theorem dX0_dayNumberOf_37 : decode cX0_dayNumberOf 37 = .ok (.lconst 1, 1) := dz_10 (kBcX0_dayNumberOf_1 37 rfl rfl)
theorem dX0_dayNumberOf_38 : decode cX0_dayNumberOf 38 = .ok (.ladd, 1) := dz_97 (kBcX0_dayNumberOf_1 38 rfl rfl)
theorem dX0_dayNumberOf_39 : decode cX0_dayNumberOf 39 = .ok (.lstore 7, 2) := dz_55 (kBcX0_dayNumberOf_1 39 rfl rfl) (kBcX0_dayNumberOf_1 40 rfl rfl)
theorem dX0_dayNumberOf_41 : decode cX0_dayNumberOf 41 = .ok (.lload_n 0, 1) := dz_30 (kBcX0_dayNumberOf_1 41 rfl rfl)
theorem dX0_dayNumberOf_42 : decode cX0_dayNumberOf 42 = .ok (.invokestatic 43, 3) := dz_184 (kBcX0_dayNumberOf_1 42 rfl rfl) (kBcX0_dayNumberOf_1 43 rfl rfl) (kBcX0_dayNumberOf_1 44 rfl rfl) rfl
theorem dX0_dayNumberOf_45 : decode cX0_dayNumberOf 45 = .ok (.lload_n 3, 1) := dz_33 (kBcX0_dayNumberOf_1 45 rfl rfl)
theorem dX0_dayNumberOf_46 : decode cX0_dayNumberOf 46 = .ok (.invokestatic 13, 3) := dz_184 (kBcX0_dayNumberOf_1 46 rfl rfl) (kBcX0_dayNumberOf_1 47 rfl rfl) (kBcX0_dayNumberOf_1 48 rfl rfl) rfl
theorem dX0_dayNumberOf_49 : decode cX0_dayNumberOf 49 = .ok (.invokestatic 57, 3) := dz_184 (kBcX0_dayNumberOf_1 49 rfl rfl) (kBcX0_dayNumberOf_1 50 rfl rfl) (kBcX0_dayNumberOf_1 51 rfl rfl) rfl
theorem dX0_dayNumberOf_52 : decode cX0_dayNumberOf 52 = .ok (.istore 9, 2) := dz_54 (kBcX0_dayNumberOf_1 52 rfl rfl) (kBcX0_dayNumberOf_1 53 rfl rfl)
theorem dX0_dayNumberOf_54 : decode cX0_dayNumberOf 54 = .ok (.ldc2_w 60, 3) := dz_20 (kBcX0_dayNumberOf_1 54 rfl rfl) (kBcX0_dayNumberOf_1 55 rfl rfl) (kBcX0_dayNumberOf_1 56 rfl rfl) rfl
theorem dX0_dayNumberOf_57 : decode cX0_dayNumberOf 57 = .ok (.ldc2_w 62, 3) := dz_20 (kBcX0_dayNumberOf_1 57 rfl rfl) (kBcX0_dayNumberOf_1 58 rfl rfl) (kBcX0_dayNumberOf_1 59 rfl rfl) rfl
theorem dX0_dayNumberOf_60 : decode cX0_dayNumberOf 60 = .ok (.lload_n 3, 1) := dz_33 (kBcX0_dayNumberOf_1 60 rfl rfl)
theorem dX0_dayNumberOf_61 : decode cX0_dayNumberOf 61 = .ok (.lmul, 1) := dz_105 (kBcX0_dayNumberOf_1 61 rfl rfl)
theorem dX0_dayNumberOf_62 : decode cX0_dayNumberOf 62 = .ok (.ladd, 1) := dz_97 (kBcX0_dayNumberOf_1 62 rfl rfl)
theorem dX0_dayNumberOf_63 : decode cX0_dayNumberOf 63 = .ok (.lload 7, 2) := dz_22 (kBcX0_dayNumberOf_1 63 rfl rfl) (kBcX0_dayNumberOf_2 64 rfl rfl)
theorem dX0_dayNumberOf_65 : decode cX0_dayNumberOf 65 = .ok (.ladd, 1) := dz_97 (kBcX0_dayNumberOf_2 65 rfl rfl)
theorem dX0_dayNumberOf_66 : decode cX0_dayNumberOf 66 = .ok (.iload 9, 2) := dz_21 (kBcX0_dayNumberOf_2 66 rfl rfl) (kBcX0_dayNumberOf_2 67 rfl rfl)
theorem dX0_dayNumberOf_68 : decode cX0_dayNumberOf 68 = .ok (.i2l, 1) := dz_133 (kBcX0_dayNumberOf_2 68 rfl rfl)
theorem dX0_dayNumberOf_69 : decode cX0_dayNumberOf 69 = .ok (.ladd, 1) := dz_97 (kBcX0_dayNumberOf_2 69 rfl rfl)
theorem dX0_dayNumberOf_70 : decode cX0_dayNumberOf 70 = .ok (.iload_n 2, 1) := dz_28 (kBcX0_dayNumberOf_2 70 rfl rfl)
theorem dX0_dayNumberOf_71 : decode cX0_dayNumberOf 71 = .ok (.i2l, 1) := dz_133 (kBcX0_dayNumberOf_2 71 rfl rfl)
theorem dX0_dayNumberOf_72 : decode cX0_dayNumberOf 72 = .ok (.ladd, 1) := dz_97 (kBcX0_dayNumberOf_2 72 rfl rfl)
theorem dX0_dayNumberOf_73 : decode cX0_dayNumberOf 73 = .ok (.lconst 1, 1) := dz_10 (kBcX0_dayNumberOf_2 73 rfl rfl)
theorem dX0_dayNumberOf_74 : decode cX0_dayNumberOf 74 = .ok (.lsub, 1) := dz_101 (kBcX0_dayNumberOf_2 74 rfl rfl)
theorem dX0_dayNumberOf_75 : decode cX0_dayNumberOf 75 = .ok (.lreturn, 1) := dz_173 (kBcX0_dayNumberOf_2 75 rfl rfl)
def kCcX0_weekdayOf_0 : List Nat := [4, 30, 20, 0, 64, 97, 20, 0, 66, 184, 0, 41, 136, 96, 172]
theorem kRcX0_weekdayOf_eq : cX0_weekdayOf.data.toList.map UInt8.toNat = kCcX0_weekdayOf_0 := by decide +kernel
theorem dX0_weekdayOf_0 : decode cX0_weekdayOf 0 = .ok (.iconst 1, 1) := dz_4 (kin0 (p := 0) kRcX0_weekdayOf_eq rfl)
theorem dX0_weekdayOf_1 : decode cX0_weekdayOf 1 = .ok (.lload_n 0, 1) := dz_30 (kin0 (p := 1) kRcX0_weekdayOf_eq rfl)
theorem dX0_weekdayOf_2 : decode cX0_weekdayOf 2 = .ok (.ldc2_w 64, 3) := dz_20 (kin0 (p := 2) kRcX0_weekdayOf_eq rfl) (kin0 (p := 3) kRcX0_weekdayOf_eq rfl) (kin0 (p := 4) kRcX0_weekdayOf_eq rfl) rfl
theorem dX0_weekdayOf_5 : decode cX0_weekdayOf 5 = .ok (.ladd, 1) := dz_97 (kin0 (p := 5) kRcX0_weekdayOf_eq rfl)
theorem dX0_weekdayOf_6 : decode cX0_weekdayOf 6 = .ok (.ldc2_w 66, 3) := dz_20 (kin0 (p := 6) kRcX0_weekdayOf_eq rfl) (kin0 (p := 7) kRcX0_weekdayOf_eq rfl) (kin0 (p := 8) kRcX0_weekdayOf_eq rfl) rfl
theorem dX0_weekdayOf_9 : decode cX0_weekdayOf 9 = .ok (.invokestatic 41, 3) := dz_184 (kin0 (p := 9) kRcX0_weekdayOf_eq rfl) (kin0 (p := 10) kRcX0_weekdayOf_eq rfl) (kin0 (p := 11) kRcX0_weekdayOf_eq rfl) rfl
theorem dX0_weekdayOf_12 : decode cX0_weekdayOf 12 = .ok (.l2i, 1) := dz_136 (kin0 (p := 12) kRcX0_weekdayOf_eq rfl)
theorem dX0_weekdayOf_13 : decode cX0_weekdayOf 13 = .ok (.iadd, 1) := dz_96 (kin0 (p := 13) kRcX0_weekdayOf_eq rfl)
theorem dX0_weekdayOf_14 : decode cX0_weekdayOf 14 = .ok (.ireturn, 1) := dz_172 (kin0 (p := 14) kRcX0_weekdayOf_eq rfl)
def kCcX0_monthsInUnits_0 : List Nat := [26, 133, 27, 184, 0, 68, 105, 173]
theorem kRcX0_monthsInUnits_eq : cX0_monthsInUnits.data.toList.map UInt8.toNat = kCcX0_monthsInUnits_0 := by decide +kernel
theorem dX0_monthsInUnits_0 : decode cX0_monthsInUnits 0 = .ok (.iload_n 0, 1) := dz_26 (kin0 (p := 0) kRcX0_monthsInUnits_eq rfl)
theorem dX0_monthsInUnits_1 : decode cX0_monthsInUnits 1 = .ok (.i2l, 1) := dz_133 (kin0 (p := 1) kRcX0_monthsInUnits_eq rfl)
theorem dX0_monthsInUnits_2 : decode cX0_monthsInUnits 2 = .ok (.iload_n 1, 1) := dz_27 (kin0 (p := 2) kRcX0_monthsInUnits_eq rfl)
theorem dX0_monthsInUnits_3 : decode cX0_monthsInUnits 3 = .ok (.invokestatic 68, 3) := dz_184 (kin0 (p := 3) kRcX0_monthsInUnits_eq rfl) (kin0 (p := 4) kRcX0_monthsInUnits_eq rfl) (kin0 (p := 5) kRcX0_monthsInUnits_eq rfl) rfl
theorem dX0_monthsInUnits_6 : decode cX0_monthsInUnits 6 = .ok (.lmul, 1) := dz_105 (kin0 (p := 6) kRcX0_monthsInUnits_eq rfl)
theorem dX0_monthsInUnits_7 : decode cX0_monthsInUnits 7 = .ok (.lreturn, 1) := dz_173 (kin0 (p := 7) kRcX0_monthsInUnits_eq rfl)
def kCcX0_unitsInMonths_0 : List Nat := [28, 184, 0, 68, 66, 33, 10, 148, 156, 0, 7, 9, 167, 0, 6, 30, 33, 109, 173]
theorem kRcX0_unitsInMonths_eq : cX0_unitsInMonths.data.toList.map UInt8.toNat = kCcX0_unitsInMonths_0 := by decide +kernel
theorem dX0_unitsInMonths_0 : decode cX0_unitsInMonths 0 = .ok (.iload_n 2, 1) := dz_28 (kin0 (p := 0) kRcX0_unitsInMonths_eq rfl)
theorem dX0_unitsInMonths_1 : decode cX0_unitsInMonths 1 = .ok (.invokestatic 68, 3) := dz_184 (kin0 (p := 1) kRcX0_unitsInMonths_eq rfl) (kin0 (p := 2) kRcX0_unitsInMonths_eq rfl) (kin0 (p := 3) kRcX0_unitsInMonths_eq rfl) rfl
theorem dX0_unitsInMonths_4 : decode cX0_unitsInMonths 4 = .ok (.lstore_n 3, 1) := dz_66 (kin0 (p := 4) kRcX0_unitsInMonths_eq rfl)
theorem dX0_unitsInMonths_5 : decode cX0_unitsInMonths 5 = .ok (.lload_n 3, 1) := dz_33 (kin0 (p := 5) kRcX0_unitsInMonths_eq rfl)
theorem dX0_unitsInMonths_6 : decode cX0_unitsInMonths 6 = .ok (.lconst 1, 1) := dz_10 (kin0 (p := 6) kRcX0_unitsInMonths_eq rfl)
theorem dX0_unitsInMonths_7 : decode cX0_unitsInMonths 7 = .ok (.lcmp, 1) := dz_148 (kin0 (p := 7) kRcX0_unitsInMonths_eq rfl)
theorem dX0_unitsInMonths_8 : decode cX0_unitsInMonths 8 = .ok (.ifCond .ge 7, 3) := dz_156 (kin0 (p := 8) kRcX0_unitsInMonths_eq rfl) (kin0 (p := 9) kRcX0_unitsInMonths_eq rfl) (kin0 (p := 10) kRcX0_unitsInMonths_eq rfl) rfl
theorem dX0_unitsInMonths_11 : decode cX0_unitsInMonths 11 = .ok (.lconst 0, 1) := dz_9 (kin0 (p := 11) kRcX0_unitsInMonths_eq rfl)
theorem dX0_unitsInMonths_12 : decode cX0_unitsInMonths 12 = .ok (.goto 6, 3) := dz_167 (kin0 (p := 12) kRcX0_unitsInMonths_eq rfl) (kin0 (p := 13) kRcX0_unitsInMonths_eq rfl) (kin0 (p := 14) kRcX0_unitsInMonths_eq rfl) rfl
theorem dX0_unitsInMonths_15 : decode cX0_unitsInMonths 15 = .ok (.lload_n 0, 1) := dz_30 (kin0 (p := 15) kRcX0_unitsInMonths_eq rfl)
theorem dX0_unitsInMonths_16 : decode cX0_unitsInMonths 16 = .ok (.lload_n 3, 1) := dz_33 (kin0 (p := 16) kRcX0_unitsInMonths_eq rfl)
theorem dX0_unitsInMonths_17 : decode cX0_unitsInMonths 17 = .ok (.ldiv, 1) := dz_109 (kin0 (p := 17) kRcX0_unitsInMonths_eq rfl)
theorem dX0_unitsInMonths_18 : decode cX0_unitsInMonths 18 = .ok (.lreturn, 1) := dz_173 (kin0 (p := 18) kRcX0_unitsInMonths_eq rfl)
def kCcX0_sizeOf_0 : List Nat := [26, 170, 0, 0, 0, 0, 0, 45, 0, 0, 0, 0, 0, 0, 0, 3, 0, 0, 0, 31, 0, 0, 0, 33, 0, 0, 0, 37, 0, 0, 0, 41]
def kCcX0_sizeOf_1 : List Nat := [10, 173, 20, 0, 35, 173, 20, 0, 72, 173, 20, 0, 74, 173, 20, 0, 76, 173]
def kRcX0_sizeOf_2 : List Nat := []
def kRcX0_sizeOf_1 : List Nat := kCcX0_sizeOf_1 ++ kRcX0_sizeOf_2
def kRcX0_sizeOf_0 : List Nat := kCcX0_sizeOf_0 ++ kRcX0_sizeOf_1
theorem kRcX0_sizeOf_eq : cX0_sizeOf.data.toList.map UInt8.toNat = kRcX0_sizeOf_0 := by decide +kernel
theorem katcX0_sizeOf_0 (i : Nat) : (cX0_sizeOf.data.toList.map UInt8.toNat)[0 + i]? = kRcX0_sizeOf_0[i]? := by rw [kRcX0_sizeOf_eq, Nat.zero_add]
theorem katcX0_sizeOf_1 : ∀ i : Nat, (cX0_sizeOf.data.toList.map UInt8.toNat)[32 + i]? = kRcX0_sizeOf_1[i]? := kstep katcX0_sizeOf_0 (C := kCcX0_sizeOf_0) rfl rfl
theorem kBcX0_sizeOf_0 {b : Nat} (p : Nat) (hp : Nat.ble 0 p = true) (h : kCcX0_sizeOf_0[p - 0]? = some b) : kb cX0_sizeOf p b := kin katcX0_sizeOf_0 rfl hp h
theorem kBcX0_sizeOf_1 {b : Nat} (p : Nat) (hp : Nat.ble 32 p = true) (h : kCcX0_sizeOf_1[p - 32]? = some b) : kb cX0_sizeOf p b := kin katcX0_sizeOf_1 rfl hp h
theorem dX0_sizeOf_0 : decode cX0_sizeOf 0 = .ok (.iload_n 0, 1) := dz_26 (kBcX0_sizeOf_0 0 rfl rfl)
theorem dX0_sizeOf_1 : decode cX0_sizeOf 1 = .ok (.tableswitch 45 0 3 #[31, 33, 37, 41], 31) := by decide +kernel
theorem dX0_sizeOf_32 : decode cX0_sizeOf 32 = .ok (.lconst 1, 1) := dz_10 (kBcX0_sizeOf_1 32 rfl rfl)
theorem dX0_sizeOf_33 : decode cX0_sizeOf 33 = .ok (.lreturn, 1) := dz_173 (kBcX0_sizeOf_1 33 rfl rfl)
theorem dX0_sizeOf_34 : decode cX0_sizeOf 34 = .ok (.ldc2_w 35, 3) := dz_20 (kBcX0_sizeOf_1 34 rfl rfl) (kBcX0_sizeOf_1 35 rfl rfl) (kBcX0_sizeOf_1 36 rfl rfl) rfl
theorem dX0_sizeOf_37 : decode cX0_sizeOf 37 = .ok (.lreturn, 1) := dz_173 (kBcX0_sizeOf_1 37 rfl rfl)
theorem dX0_sizeOf_38 : decode cX0_sizeOf 38 = .ok (.ldc2_w 72, 3) := dz_20 (kBcX0_sizeOf_1 38 rfl rfl) (kBcX0_sizeOf_1 39 rfl rfl) (kBcX0_sizeOf_1 40 rfl rfl) rfl
theorem dX0_sizeOf_41 : decode cX0_sizeOf 41 = .ok (.lreturn, 1) := dz_173 (kBcX0_sizeOf_1 41 rfl rfl)
theorem dX0_sizeOf_42 : decode cX0_sizeOf 42 = .ok (.ldc2_w 74, 3) := dz_20 (kBcX0_sizeOf_1 42 rfl rfl) (kBcX0_sizeOf_1 43 rfl rfl) (kBcX0_sizeOf_1 44 rfl rfl) rfl
theorem dX0_sizeOf_45 : decode cX0_sizeOf 45 = .ok (.lreturn, 1) := dz_173 (kBcX0_sizeOf_1 45 rfl rfl)
theorem dX0_sizeOf_46 : decode cX0_sizeOf 46 = .ok (.ldc2_w 76, 3) := dz_20 (kBcX0_sizeOf_1 46 rfl rfl) (kBcX0_sizeOf_1 47 rfl rfl) (kBcX0_sizeOf_1 48 rfl rfl) rfl
theorem dX0_sizeOf_49 : decode cX0_sizeOf 49 = .ok (.lreturn, 1) := dz_173 (kBcX0_sizeOf_1 49 rfl rfl)
def kCcX1_init_0 : List Nat := [42, 183, 0, 1, 42, 7, 188, 11, 181, 0, 9, 42, 7, 188, 10, 181, 0, 13, 42, 7, 188, 10, 181, 0, 17, 42, 7, 188, 10, 181, 0, 20]
def kCcX1_init_1 : List Nat := [42, 7, 188, 11, 181, 0, 23, 42, 7, 188, 10, 181, 0, 26, 42, 187, 0, 29, 89, 183, 0, 31, 181, 0, 32, 42, 3, 181, 0, 36, 3, 60]
def kCcX1_init_2 : List Nat := [27, 7, 162, 0, 30, 42, 180, 0, 17, 27, 4, 79, 42, 180, 0, 20, 27, 4, 79, 42, 180, 0, 26, 27, 4, 79, 132, 1, 1, 167, 255, 227]
def kCcX1_init_3 : List Nat := [177]
def kRcX1_init_4 : List Nat := []
def kRcX1_init_3 : List Nat := kCcX1_init_3 ++ kRcX1_init_4
def kRcX1_init_2 : List Nat := kCcX1_init_2 ++ kRcX1_init_3
def kRcX1_init_1 : List Nat := kCcX1_init_1 ++ kRcX1_init_2
def kRcX1_init_0 : List Nat := kCcX1_init_0 ++ kRcX1_init_1
theorem kRcX1_init_eq : cX1_init.data.toList.map UInt8.toNat = kRcX1_init_0 := by decide +kernel
theorem katcX1_init_0 (i : Nat) : (cX1_init.data.toList.map UInt8.toNat)[0 + i]? = kRcX1_init_0[i]? := by rw [kRcX1_init_eq, Nat.zero_add]
theorem katcX1_init_1 : ∀ i : Nat, (cX1_init.data.toList.map UInt8.toNat)[32 + i]? = kRcX1_init_1[i]? := kstep katcX1_init_0 (C := kCcX1_init_0) rfl rfl
theorem katcX1_init_2 : ∀ i : Nat, (cX1_init.data.toList.map UInt8.toNat)[64 + i]? = kRcX1_init_2[i]? := kstep katcX1_init_1 (C := kCcX1_init_1) rfl rfl
theorem katcX1_init_3 : ∀ i : Nat, (cX1_init.data.toList.map UInt8.toNat)[96 + i]? = kRcX1_init_3[i]? := kstep katcX1_init_2 (C := kCcX1_init_2) rfl rfl
theorem kBcX1_init_0 {b : Nat} (p : Nat) (hp : Nat.ble 0 p = true) (h : kCcX1_init_0[p - 0]? = some b) : kb cX1_init p b := kin katcX1_init_0 rfl hp h
theorem kBcX1_init_1 {b : Nat} (p : Nat) (hp : Nat.ble 32 p = true) (h : kCcX1_init_1[p - 32]? = some b) : kb cX1_init p b := kin katcX1_init_1 rfl hp h
theorem kBcX1_init_2 {b : Nat} (p : Nat) (hp : Nat.ble 64 p = true) (h : kCcX1_init_2[p - 64]? = some b) : kb cX1_init p b := kin katcX1_init_2 rfl hp h
theorem kBcX1_init_3 {b : Nat} (p : Nat) (hp : Nat.ble 96 p = true) (h : kCcX1_init_3[p - 96]? = some b) : kb cX1_init p b := kin katcX1_init_3 rfl hp h
theorem dX1_init_0 : decode cX1_init 0 = .ok (.aload_n 0, 1) := dz_42 (kBcX1_init_0 0 rfl rfl)
theorem dX1_init_1 : decode cX1_init 1 = .ok (.invokespecial 1, 3) := dz_183 (kBcX1_init_0 1 rfl rfl) (kBcX1_init_0 2 rfl rfl) (kBcX1_init_0 3 rfl rfl) rfl
theorem dX1_init_4 : decode cX1_init 4 = .ok (.aload_n 0, 1) := dz_42 (kBcX1_init_0 4 rfl rfl)
theorem dX1_init_5 : decode cX1_init 5 = .ok (.iconst 4, 1) := dz_7 (kBcX1_init_0 5 rfl rfl)
theorem dX1_init_6 : decode cX1_init 6 = .ok (.newarray .long, 2) := by decide +kernel
theorem dX1_init_8 : decode cX1_init 8 = .ok (.putfield 9, 3) := dz_181 (kBcX1_init_0 8 rfl rfl) (kBcX1_init_0 9 rfl rfl) (kBcX1_init_0 10 rfl rfl) rfl
theorem dX1_init_11 : decode cX1_init 11 = .ok (.aload_n 0, 1) := dz_42 (kBcX1_init_0 11 rfl rfl)
theorem dX1_init_12 : decode cX1_init 12 = .ok (.iconst 4, 1) := dz_7 (kBcX1_init_0 12 rfl rfl)
theorem dX1_init_13 : decode cX1_init 13 = .ok (.newarray .int, 2) := by decide +kernel
theorem dX1_init_15 : decode cX1_init 15 = .ok (.putfield 13, 3) := dz_181 (kBcX1_init_0 15 rfl rfl) (kBcX1_init_0 16 rfl rfl) (kBcX1_init_0 17 rfl rfl) rfl
theorem dX1_init_18 : decode cX1_init 18 = .ok (.aload_n 0, 1) := dz_42 (kBcX1_init_0 18 rfl rfl)
theorem dX1_init_19 : decode cX1_init 19 = .ok (.iconst 4, 1) := dz_7 (kBcX1_init_0 19 rfl rfl)
theorem dX1_init_20 : decode cX1_init 20 = .ok (.newarray .int, 2) := by decide +kernel
theorem dX1_init_22 : decode cX1_init 22 = .ok (.putfield 17, 3) := dz_181 (kBcX1_init_0 22 rfl rfl) (kBcX1_init_0 23 rfl rfl) (kBcX1_init_0 24 rfl rfl) rfl
theorem dX1_init_25 : decode cX1_init 25 = .ok (.aload_n 0, 1) := dz_42 (kBcX1_init_0 25 rfl rfl)
theorem dX1_init_26 : decode cX1_init 26 = .ok (.iconst 4, 1) := dz_7 (kBcX1_init_0 26 rfl rfl)
theorem dX1_init_27 : decode cX1_init 27 = .ok (.newarray .int, 2) := by decide +kernel
theorem dX1_init_29 : decode cX1_init 29 = .ok (.putfield 20, 3) := dz_181 (kBcX1_init_0 29 rfl rfl) (kBcX1_init_0 30 rfl rfl) (kBcX1_init_0 31 rfl rfl) rfl
theorem dX1_init_32 : decode cX1_init 32 = .ok (.aload_n 0, 1) := dz_42 (kBcX1_init_1 32 rfl rfl)
theorem dX1_init_33 : decode cX1_init 33 = .ok (.iconst 4, 1) := dz_7 (kBcX1_init_1 33 rfl rfl)
theorem dX1_init_34 : decode cX1_init 34 = .ok (.newarray .long, 2) := by decide +kernel
theorem dX1_init_36 : decode cX1_init 36 = .ok (.putfield 23, 3) := dz_181 (kBcX1_init_1 36 rfl rfl) (kBcX1_init_1 37 rfl rfl) (kBcX1_init_1 38 rfl rfl) rfl
theorem dX1_init_39 : decode cX1_init 39 = .ok (.aload_n 0, 1) := dz_42 (kBcX1_init_1 39 rfl rfl)
theorem dX1_init_40 : decode cX1_init 40 = .ok (.iconst 4, 1) := dz_7 (kBcX1_init_1 40 rfl rfl)
theorem dX1_init_41 : decode cX1_init 41 = .ok (.newarray .int, 2) := by decide +kernel
theorem dX1_init_43 : decode cX1_init 43 = .ok (.putfield 26, 3) := dz_181 (kBcX1_init_1 43 rfl rfl) (kBcX1_init_1 44 rfl rfl) (kBcX1_init_1 45 rfl rfl) rfl
theorem dX1_init_46 : decode cX1_init 46 = .ok (.aload_n 0, 1) := dz_42 (kBcX1_init_1 46 rfl rfl)
theorem dX1_init_47 : decode cX1_init 47 = .ok (.new 29, 3) := dz_187 (kBcX1_init_1 47 rfl rfl) (kBcX1_init_1 48 rfl rfl) (kBcX1_init_1 49 rfl rfl) rfl
theorem dX1_init_50 : decode cX1_init 50 = .ok (.dup, 1) := dz_89 (kBcX1_init_1 50 rfl rfl)
theorem dX1_init_51 : decode cX1_init 51 = .ok (.invokespecial 31, 3) := dz_183 (kBcX1_init_1 51 rfl rfl) (kBcX1_init_1 52 rfl rfl) (kBcX1_init_1 53 rfl rfl) rfl
theorem dX1_init_54 : decode cX1_init 54 = .ok (.putfield 32, 3) := dz_181 (kBcX1_init_1 54 rfl rfl) (kBcX1_init_1 55 rfl rfl) (kBcX1_init_1 56 rfl rfl) rfl
theorem dX1_init_57 : decode cX1_init 57 = .ok (.aload_n 0, 1) := dz_42 (kBcX1_init_1 57 rfl rfl)
theorem dX1_init_58 : decode cX1_init 58 = .ok (.iconst 0, 1) := dz_3 (kBcX1_init_1 58 rfl rfl)
theorem dX1_init_59 : decode cX1_init 59 = .ok (.putfield 36, 3) := dz_181 (kBcX1_init_1 59 rfl rfl) (kBcX1_init_1 60 rfl rfl) (kBcX1_init_1 61 rfl rfl) rfl
theorem dX1_init_62 : decode cX1_init 62 = .ok (.iconst 0, 1) := dz_3 (kBcX1_init_1 62 rfl rfl)
theorem dX1_init_63 : decode cX1_init 63 = .ok (.istore_n 1, 1) := dz_60 (kBcX1_init_1 63 rfl rfl)
theorem dX1_init_64 : decode cX1_init 64 = .ok (.iload_n 1, 1) := dz_27 (kBcX1_init_2 64 rfl rfl)
theorem dX1_init_65 : decode cX1_init 65 = .ok (.iconst 4, 1) := dz_7 (kBcX1_init_2 65 rfl rfl)
theorem dX1_init_66 : decode cX1_init 66 = .ok (.if_icmp .ge 30, 3) := dz_162 (kBcX1_init_2 66 rfl rfl) (kBcX1_init_2 67 rfl rfl) (kBcX1_init_2 68 rfl rfl) rfl
theorem dX1_init_69 : decode cX1_init 69 = .ok (.aload_n 0, 1) := dz_42 (kBcX1_init_2 69 rfl rfl)
theorem dX1_init_70 : decode cX1_init 70 = .ok (.getfield 17, 3) := dz_180 (kBcX1_init_2 70 rfl rfl) (kBcX1_init_2 71 rfl rfl) (kBcX1_init_2 72 rfl rfl) rfl
theorem dX1_init_73 : decode cX1_init 73 = .ok (.iload_n 1, 1) := dz_27 (kBcX1_init_2 73 rfl rfl)
theorem dX1_init_74 : decode cX1_init 74 = .ok (.iconst 1, 1) := dz_4 (kBcX1_init_2 74 rfl rfl)
theorem dX1_init_75 : decode cX1_init 75 = .ok (.iastore, 1) := dz_79 (kBcX1_init_2 75 rfl rfl)
theorem dX1_init_76 : decode cX1_init 76 = .ok (.aload_n 0, 1) := dz_42 (kBcX1_init_2 76 rfl rfl)
theorem dX1_init_77 : decode cX1_init 77 = .ok (.getfield 20, 3) := dz_180 (kBcX1_init_2 77 rfl rfl) (kBcX1_init_2 78 rfl rfl) (kBcX1_init_2 79 rfl rfl) rfl
theorem dX1_init_80 : decode cX1_init 80 = .ok (.iload_n 1, 1) := dz_27 (kBcX1_init_2 80 rfl rfl)
theorem dX1_init_81 : decode cX1_init 81 = .ok (.iconst 1, 1) := dz_4 (kBcX1_init_2 81 rfl rfl)
theorem dX1_init_82 : decode cX1_init 82 = .ok (.iastore, 1) := dz_79 (kBcX1_init_2 82 rfl rfl)
theorem dX1_init_83 : decode cX1_init 83 = .ok (.aload_n 0, 1) := dz_42 (kBcX1_init_2 83 rfl rfl)
theorem dX1_init_84 : decode cX1_init 84 = .ok (.getfield 26, 3) := dz_180 (kBcX1_init_2 84 rfl rfl) (kBcX1_init_2 85 rfl rfl) (kBcX1_init_2 86 rfl rfl) rfl
theorem dX1_init_87 : decode cX1_init 87 = .ok (.iload_n 1, 1) := dz_27 (kBcX1_init_2 87 rfl rfl)
theorem dX1_init_88 : decode cX1_init 88 = .ok (.iconst 1, 1) := dz_4 (kBcX1_init_2 88 rfl rfl)
theorem dX1_init_89 : decode cX1_init 89 = .ok (.iastore, 1) := dz_79 (kBcX1_init_2 89 rfl rfl)
theorem dX1_init_90 : decode cX1_init 90 = .ok (.iinc 1 1, 3) := dz_132 (kBcX1_init_2 90 rfl rfl) (kBcX1_init_2 91 rfl rfl) (kBcX1_init_2 92 rfl rfl) rfl
theorem dX1_init_93 : decode cX1_init 93 = .ok (.goto (-29), 3) := dz_167 (kBcX1_init_2 93 rfl rfl) (kBcX1_init_2 94 rfl rfl) (kBcX1_init_2 95 rfl rfl) rfl
theorem dX1_init_96 : decode cX1_init 96 = .ok (.return_, 1) := dz_177 (kBcX1_init_3 96 rfl rfl)
def kCcX1_leaf_0 : List Nat := [27, 184, 0, 40, 28, 184, 0, 44, 29, 184, 0, 47, 42, 27, 28, 29, 184, 0, 50, 182, 0, 56, 172]
theorem kRcX1_leaf_eq : cX1_leaf.data.toList.map UInt8.toNat = kCcX1_leaf_0 := by decide +kernel
theorem dX1_leaf_0 : decode cX1_leaf 0 = .ok (.iload_n 1, 1) := dz_27 (kin0 (p := 0) kRcX1_leaf_eq rfl)
theorem dX1_leaf_1 : decode cX1_leaf 1 = .ok (.invokestatic 40, 3) := dz_184 (kin0 (p := 1) kRcX1_leaf_eq rfl) (kin0 (p := 2) kRcX1_leaf_eq rfl) (kin0 (p := 3) kRcX1_leaf_eq rfl) rfl
theorem dX1_leaf_4 : decode cX1_leaf 4 = .ok (.iload_n 2, 1) := dz_28 (kin0 (p := 4) kRcX1_leaf_eq rfl)
theorem dX1_leaf_5 : decode cX1_leaf 5 = .ok (.invokestatic 44, 3) := dz_184 (kin0 (p := 5) kRcX1_leaf_eq rfl) (kin0 (p := 6) kRcX1_leaf_eq rfl) (kin0 (p := 7) kRcX1_leaf_eq rfl) rfl
theorem dX1_leaf_8 : decode cX1_leaf 8 = .ok (.iload_n 3, 1) := dz_29 (kin0 (p := 8) kRcX1_leaf_eq rfl)
theorem dX1_leaf_9 : decode cX1_leaf 9 = .ok (.invokestatic 47, 3) := dz_184 (kin0 (p := 9) kRcX1_leaf_eq rfl) (kin0 (p := 10) kRcX1_leaf_eq rfl) (kin0 (p := 11) kRcX1_leaf_eq rfl) rfl
theorem dX1_leaf_12 : decode cX1_leaf 12 = .ok (.aload_n 0, 1) := dz_42 (kin0 (p := 12) kRcX1_leaf_eq rfl)
theorem dX1_leaf_13 : decode cX1_leaf 13 = .ok (.iload_n 1, 1) := dz_27 (kin0 (p := 13) kRcX1_leaf_eq rfl)
theorem dX1_leaf_14 : decode cX1_leaf 14 = .ok (.iload_n 2, 1) := dz_28 (kin0 (p := 14) kRcX1_leaf_eq rfl)
theorem dX1_leaf_15 : decode cX1_leaf 15 = .ok (.iload_n 3, 1) := dz_29 (kin0 (p := 15) kRcX1_leaf_eq rfl)
theorem dX1_leaf_16 : decode cX1_leaf 16 = .ok (.invokestatic 50, 3) := dz_184 (kin0 (p := 16) kRcX1_leaf_eq rfl) (kin0 (p := 17) kRcX1_leaf_eq rfl) (kin0 (p := 18) kRcX1_leaf_eq rfl) rfl
theorem dX1_leaf_19 : decode cX1_leaf 19 = .ok (.invokevirtual 56, 3) := dz_182 (kin0 (p := 19) kRcX1_leaf_eq rfl) (kin0 (p := 20) kRcX1_leaf_eq rfl) (kin0 (p := 21) kRcX1_leaf_eq rfl) rfl
theorem dX1_leaf_22 : decode cX1_leaf 22 = .ok (.ireturn, 1) := dz_172 (kin0 (p := 22) kRcX1_leaf_eq rfl)
def kCcX1_leafRound_0 : List Nat := [27, 184, 0, 40, 28, 184, 0, 44, 29, 184, 0, 60, 54, 4, 42, 27, 28, 21, 4, 184, 0, 50, 182, 0, 56, 87, 21, 4, 172]
theorem kRcX1_leafRound_eq : cX1_leafRound.data.toList.map UInt8.toNat = kCcX1_leafRound_0 := by decide +kernel
theorem dX1_leafRound_0 : decode cX1_leafRound 0 = .ok (.iload_n 1, 1) := dz_27 (kin0 (p := 0) kRcX1_leafRound_eq rfl)
theorem dX1_leafRound_1 : decode cX1_leafRound 1 = .ok (.invokestatic 40, 3) := dz_184 (kin0 (p := 1) kRcX1_leafRound_eq rfl) (kin0 (p := 2) kRcX1_leafRound_eq rfl) (kin0 (p := 3) kRcX1_leafRound_eq rfl) rfl
theorem dX1_leafRound_4 : decode cX1_leafRound 4 = .ok (.iload_n 2, 1) := dz_28 (kin0 (p := 4) kRcX1_leafRound_eq rfl)
theorem dX1_leafRound_5 : decode cX1_leafRound 5 = .ok (.invokestatic 44, 3) := dz_184 (kin0 (p := 5) kRcX1_leafRound_eq rfl) (kin0 (p := 6) kRcX1_leafRound_eq rfl) (kin0 (p := 7) kRcX1_leafRound_eq rfl) rfl
theorem dX1_leafRound_8 : decode cX1_leafRound 8 = .ok (.iload_n 3, 1) := dz_29 (kin0 (p := 8) kRcX1_leafRound_eq rfl)
theorem dX1_leafRound_9 : decode cX1_leafRound 9 = .ok (.invokestatic 60, 3) := dz_184 (kin0 (p := 9) kRcX1_leafRound_eq rfl) (kin0 (p := 10) kRcX1_leafRound_eq rfl) (kin0 (p := 11) kRcX1_leafRound_eq rfl) rfl
theorem dX1_leafRound_12 : decode cX1_leafRound 12 = .ok (.istore 4, 2) := dz_54 (kin0 (p := 12) kRcX1_leafRound_eq rfl) (kin0 (p := 13) kRcX1_leafRound_eq rfl)
theorem dX1_leafRound_14 : decode cX1_leafRound 14 = .ok (.aload_n 0, 1) := dz_42 (kin0 (p := 14) kRcX1_leafRound_eq rfl)
theorem dX1_leafRound_15 : decode cX1_leafRound 15 = .ok (.iload_n 1, 1) := dz_27 (kin0 (p := 15) kRcX1_leafRound_eq rfl)
theorem dX1_leafRound_16 : decode cX1_leafRound 16 = .ok (.iload_n 2, 1) := dz_28 (kin0 (p := 16) kRcX1_leafRound_eq rfl)
theorem dX1_leafRound_17 : decode cX1_leafRound 17 = .ok (.iload 4, 2) := dz_21 (kin0 (p := 17) kRcX1_leafRound_eq rfl) (kin0 (p := 18) kRcX1_leafRound_eq rfl)
theorem dX1_leafRound_19 : decode cX1_leafRound 19 = .ok (.invokestatic 50, 3) := dz_184 (kin0 (p := 19) kRcX1_leafRound_eq rfl) (kin0 (p := 20) kRcX1_leafRound_eq rfl) (kin0 (p := 21) kRcX1_leafRound_eq rfl) rfl
theorem dX1_leafRound_22 : decode cX1_leafRound 22 = .ok (.invokevirtual 56, 3) := dz_182 (kin0 (p := 22) kRcX1_leafRound_eq rfl) (kin0 (p := 23) kRcX1_leafRound_eq rfl) (kin0 (p := 24) kRcX1_leafRound_eq rfl) rfl
theorem dX1_leafRound_25 : decode cX1_leafRound 25 = .ok (.pop, 1) := dz_87 (kin0 (p := 25) kRcX1_leafRound_eq rfl)
theorem dX1_leafRound_26 : decode cX1_leafRound 26 = .ok (.iload 4, 2) := dz_21 (kin0 (p := 26) kRcX1_leafRound_eq rfl) (kin0 (p := 27) kRcX1_leafRound_eq rfl)
theorem dX1_leafRound_28 : decode cX1_leafRound 28 = .ok (.ireturn, 1) := dz_172 (kin0 (p := 28) kRcX1_leafRound_eq rfl)
def kCcX1_months_0 : List Nat := [27, 184, 0, 40, 42, 27, 28, 133, 29, 182, 0, 64, 172]
theorem kRcX1_months_eq : cX1_months.data.toList.map UInt8.toNat = kCcX1_months_0 := by decide +kernel
theorem dX1_months_0 : decode cX1_months 0 = .ok (.iload_n 1, 1) := dz_27 (kin0 (p := 0) kRcX1_months_eq rfl)
theorem dX1_months_1 : decode cX1_months 1 = .ok (.invokestatic 40, 3) := dz_184 (kin0 (p := 1) kRcX1_months_eq rfl) (kin0 (p := 2) kRcX1_months_eq rfl) (kin0 (p := 3) kRcX1_months_eq rfl) rfl
theorem dX1_months_4 : decode cX1_months 4 = .ok (.aload_n 0, 1) := dz_42 (kin0 (p := 4) kRcX1_months_eq rfl)
theorem dX1_months_5 : decode cX1_months 5 = .ok (.iload_n 1, 1) := dz_27 (kin0 (p := 5) kRcX1_months_eq rfl)
theorem dX1_months_6 : decode cX1_months 6 = .ok (.iload_n 2, 1) := dz_28 (kin0 (p := 6) kRcX1_months_eq rfl)
theorem dX1_months_7 : decode cX1_months 7 = .ok (.i2l, 1) := dz_133 (kin0 (p := 7) kRcX1_months_eq rfl)
theorem dX1_months_8 : decode cX1_months 8 = .ok (.iload_n 3, 1) := dz_29 (kin0 (p := 8) kRcX1_months_eq rfl)
theorem dX1_months_9 : decode cX1_months 9 = .ok (.invokevirtual 64, 3) := dz_182 (kin0 (p := 9) kRcX1_months_eq rfl) (kin0 (p := 10) kRcX1_months_eq rfl) (kin0 (p := 11) kRcX1_months_eq rfl) rfl
theorem dX1_months_12 : decode cX1_months 12 = .ok (.ireturn, 1) := dz_172 (kin0 (p := 12) kRcX1_months_eq rfl)
def kCcX1_years_0 : List Nat := [27, 184, 0, 40, 42, 27, 28, 4, 184, 0, 68, 29, 182, 0, 64, 172]
theorem kRcX1_years_eq : cX1_years.data.toList.map UInt8.toNat = kCcX1_years_0 := by decide +kernel
theorem dX1_years_0 : decode cX1_years 0 = .ok (.iload_n 1, 1) := dz_27 (kin0 (p := 0) kRcX1_years_eq rfl)
theorem dX1_years_1 : decode cX1_years 1 = .ok (.invokestatic 40, 3) := dz_184 (kin0 (p := 1) kRcX1_years_eq rfl) (kin0 (p := 2) kRcX1_years_eq rfl) (kin0 (p := 3) kRcX1_years_eq rfl) rfl
theorem dX1_years_4 : decode cX1_years 4 = .ok (.aload_n 0, 1) := dz_42 (kin0 (p := 4) kRcX1_years_eq rfl)
theorem dX1_years_5 : decode cX1_years 5 = .ok (.iload_n 1, 1) := dz_27 (kin0 (p := 5) kRcX1_years_eq rfl)
theorem dX1_years_6 : decode cX1_years 6 = .ok (.iload_n 2, 1) := dz_28 (kin0 (p := 6) kRcX1_years_eq rfl)
theorem dX1_years_7 : decode cX1_years 7 = .ok (.iconst 1, 1) := dz_4 (kin0 (p := 7) kRcX1_years_eq rfl)
theorem dX1_years_8 : decode cX1_years 8 = .ok (.invokestatic 68, 3) := dz_184 (kin0 (p := 8) kRcX1_years_eq rfl) (kin0 (p := 9) kRcX1_years_eq rfl) (kin0 (p := 10) kRcX1_years_eq rfl) rfl
theorem dX1_years_11 : decode cX1_years 11 = .ok (.iload_n 3, 1) := dz_29 (kin0 (p := 11) kRcX1_years_eq rfl)
theorem dX1_years_12 : decode cX1_years 12 = .ok (.invokevirtual 64, 3) := dz_182 (kin0 (p := 12) kRcX1_years_eq rfl) (kin0 (p := 13) kRcX1_years_eq rfl) (kin0 (p := 14) kRcX1_years_eq rfl) rfl
theorem dX1_years_15 : decode cX1_years 15 = .ok (.ireturn, 1) := dz_172 (kin0 (p := 15) kRcX1_years_eq rfl)
def kCcX1_units_0 : List Nat := [27, 184, 0, 40, 28, 3, 7, 184, 0, 71, 42, 27, 29, 28, 184, 0, 68, 21, 4, 182, 0, 64, 172]
theorem kRcX1_units_eq : cX1_units.data.toList.map UInt8.toNat = kCcX1_units_0 := by decide +kernel
theorem dX1_units_0 : decode cX1_units 0 = .ok (.iload_n 1, 1) := dz_27 (kin0 (p := 0) kRcX1_units_eq rfl)
theorem dX1_units_1 : decode cX1_units 1 = .ok (.invokestatic 40, 3) := dz_184 (kin0 (p := 1) kRcX1_units_eq rfl) (kin0 (p := 2) kRcX1_units_eq rfl) (kin0 (p := 3) kRcX1_units_eq rfl) rfl
theorem dX1_units_4 : decode cX1_units 4 = .ok (.iload_n 2, 1) := dz_28 (kin0 (p := 4) kRcX1_units_eq rfl)
theorem dX1_units_5 : decode cX1_units 5 = .ok (.iconst 0, 1) := dz_3 (kin0 (p := 5) kRcX1_units_eq rfl)
theorem dX1_units_6 : decode cX1_units 6 = .ok (.iconst 4, 1) := dz_7 (kin0 (p := 6) kRcX1_units_eq rfl)
theorem dX1_units_7 : decode cX1_units 7 = .ok (.invokestatic 71, 3) := dz_184 (kin0 (p := 7) kRcX1_units_eq rfl) (kin0 (p := 8) kRcX1_units_eq rfl) (kin0 (p := 9) kRcX1_units_eq rfl) rfl
theorem dX1_units_10 : decode cX1_units 10 = .ok (.aload_n 0, 1) := dz_42 (kin0 (p := 10) kRcX1_units_eq rfl)
theorem dX1_units_11 : decode cX1_units 11 = .ok (.iload_n 1, 1) := dz_27 (kin0 (p := 11) kRcX1_units_eq rfl)
theorem dX1_units_12 : decode cX1_units 12 = .ok (.iload_n 3, 1) := dz_29 (kin0 (p := 12) kRcX1_units_eq rfl)
theorem dX1_units_13 : decode cX1_units 13 = .ok (.iload_n 2, 1) := dz_28 (kin0 (p := 13) kRcX1_units_eq rfl)
theorem dX1_units_14 : decode cX1_units 14 = .ok (.invokestatic 68, 3) := dz_184 (kin0 (p := 14) kRcX1_units_eq rfl) (kin0 (p := 15) kRcX1_units_eq rfl) (kin0 (p := 16) kRcX1_units_eq rfl) rfl
theorem dX1_units_17 : decode cX1_units 17 = .ok (.iload 4, 2) := dz_21 (kin0 (p := 17) kRcX1_units_eq rfl) (kin0 (p := 18) kRcX1_units_eq rfl)
theorem dX1_units_19 : decode cX1_units 19 = .ok (.invokevirtual 64, 3) := dz_182 (kin0 (p := 19) kRcX1_units_eq rfl) (kin0 (p := 20) kRcX1_units_eq rfl) (kin0 (p := 21) kRcX1_units_eq rfl) rfl
theorem dX1_units_22 : decode cX1_units 22 = .ok (.ireturn, 1) := dz_172 (kin0 (p := 22) kRcX1_units_eq rfl)
def kCcX1_both_0 : List Nat := [27, 184, 0, 40, 28, 18, 75, 18, 76, 184, 0, 71, 29, 18, 75, 18, 76, 184, 0, 71, 42, 27, 28, 4, 184, 0, 68, 29, 133, 97, 21, 4]
def kCcX1_both_1 : List Nat := [182, 0, 64, 172]
def kRcX1_both_2 : List Nat := []
def kRcX1_both_1 : List Nat := kCcX1_both_1 ++ kRcX1_both_2
def kRcX1_both_0 : List Nat := kCcX1_both_0 ++ kRcX1_both_1
theorem kRcX1_both_eq : cX1_both.data.toList.map UInt8.toNat = kRcX1_both_0 := by decide +kernel
theorem katcX1_both_0 (i : Nat) : (cX1_both.data.toList.map UInt8.toNat)[0 + i]? = kRcX1_both_0[i]? := by rw [kRcX1_both_eq, Nat.zero_add]
theorem katcX1_both_1 : ∀ i : Nat, (cX1_both.data.toList.map UInt8.toNat)[32 + i]? = kRcX1_both_1[i]? := kstep katcX1_both_0 (C := kCcX1_both_0) rfl rfl
theorem kBcX1_both_0 {b : Nat} (p : Nat) (hp : Nat.ble 0 p = true) (h : kCcX1_both_0[p - 0]? = some b) : kb cX1_both p b := kin katcX1_both_0 rfl hp h
theorem kBcX1_both_1 {b : Nat} (p : Nat) (hp : Nat.ble 32 p = true) (h : kCcX1_both_1[p - 32]? = some b) : kb cX1_both p b := kin katcX1_both_1 rfl hp h
theorem dX1_both_0 : decode cX1_both 0 = .ok (.iload_n 1, 1) := dz_27 (kBcX1_both_0 0 rfl rfl)
theorem dX1_both_1 : decode cX1_both 1 = .ok (.invokestatic 40, 3) := dz_184 (kBcX1_both_0 1 rfl rfl) (kBcX1_both_0 2 rfl rfl) (kBcX1_both_0 3 rfl rfl) rfl
theorem dX1_both_4 : decode cX1_both 4 = .ok (.iload_n 2, 1) := dz_28 (kBcX1_both_0 4 rfl rfl)
theorem dX1_both_5 : decode cX1_both 5 = .ok (.ldc 75, 2) := dz_18 (kBcX1_both_0 5 rfl rfl) (kBcX1_both_0 6 rfl rfl)
theorem dX1_both_7 : decode cX1_both 7 = .ok (.ldc 76, 2) := dz_18 (kBcX1_both_0 7 rfl rfl) (kBcX1_both_0 8 rfl rfl)
theorem dX1_both_9 : decode cX1_both 9 = .ok (.invokestatic 71, 3) := dz_184 (kBcX1_both_0 9 rfl rfl) (kBcX1_both_0 10 rfl rfl) (kBcX1_both_0 11 rfl rfl) rfl
theorem dX1_both_12 : decode cX1_both 12 = .ok (.iload_n 3, 1) := dz_29 (kBcX1_both_0 12 rfl rfl)
theorem dX1_both_13 : decode cX1_both 13 = .ok (.ldc 75, 2) := dz_18 (kBcX1_both_0 13 rfl rfl) (kBcX1_both_0 14 rfl rfl)
theorem dX1_both_15 : decode cX1_both 15 = .ok (.ldc 76, 2) := dz_18 (kBcX1_both_0 15 rfl rfl) (kBcX1_both_0 16 rfl rfl)
theorem dX1_both_17 : decode cX1_both 17 = .ok (.invokestatic 71, 3) := dz_184 (kBcX1_both_0 17 rfl rfl) (kBcX1_both_0 18 rfl rfl) (kBcX1_both_0 19 rfl rfl) rfl
theorem dX1_both_20 : decode cX1_both 20 = .ok (.aload_n 0, 1) := dz_42 (kBcX1_both_0 20 rfl rfl)
theorem dX1_both_21 : decode cX1_both 21 = .ok (.iload_n 1, 1) := dz_27 (kBcX1_both_0 21 rfl rfl)
theorem dX1_both_22 : decode cX1_both 22 = .ok (.iload_n 2, 1) := dz_28 (kBcX1_both_0 22 rfl rfl)
theorem dX1_both_23 : decode cX1_both 23 = .ok (.iconst 1, 1) := dz_4 (kBcX1_both_0 23 rfl rfl)
theorem dX1_both_24 : decode cX1_both 24 = .ok (.invokestatic 68, 3) := dz_184 (kBcX1_both_0 24 rfl rfl) (kBcX1_both_0 25 rfl rfl) (kBcX1_both_0 26 rfl rfl) rfl
theorem dX1_both_27 : decode cX1_both 27 = .ok (.iload_n 3, 1) := dz_29 (kBcX1_both_0 27 rfl rfl)
theorem dX1_both_28 : decode cX1_both 28 = .ok (.i2l, 1) := dz_133 (kBcX1_both_0 28 rfl rfl)
theorem dX1_both_29 : decode cX1_both 29 = .ok (.ladd, 1) := dz_97 (kBcX1_both_0 29 rfl rfl)
theorem dX1_both_30 : decode cX1_both 30 = .ok (.iload 4, 2) := dz_21 (kBcX1_both_0 30 rfl rfl) (kBcX1_both_0 31 rfl rfl)
theorem dX1_both_32 : decode cX1_both 32 = .ok (.invokevirtual 64, 3) := dz_182 (kBcX1_both_1 32 rfl rfl) (kBcX1_both_1 33 rfl rfl) (kBcX1_both_1 34 rfl rfl) rfl
theorem dX1_both_35 : decode cX1_both 35 = .ok (.ireturn, 1) := dz_172 (kBcX1_both_1 35 rfl rfl)
def kCcX1_leafYear_0 : List Nat := [27, 184, 0, 40, 28, 184, 0, 44, 42, 180, 0, 9, 27, 47, 66, 42, 27, 28, 33, 184, 0, 77, 184, 0, 50, 182, 0, 56, 87, 33, 184, 0]
def kCcX1_leafYear_1 : List Nat := [81, 172]
def kRcX1_leafYear_2 : List Nat := []
def kRcX1_leafYear_1 : List Nat := kCcX1_leafYear_1 ++ kRcX1_leafYear_2
def kRcX1_leafYear_0 : List Nat := kCcX1_leafYear_0 ++ kRcX1_leafYear_1
theorem kRcX1_leafYear_eq : cX1_leafYear.data.toList.map UInt8.toNat = kRcX1_leafYear_0 := by decide +kernel
theorem katcX1_leafYear_0 (i : Nat) : (cX1_leafYear.data.toList.map UInt8.toNat)[0 + i]? = kRcX1_leafYear_0[i]? := by rw [kRcX1_leafYear_eq, Nat.zero_add]
theorem katcX1_leafYear_1 : ∀ i : Nat, (cX1_leafYear.data.toList.map UInt8.toNat)[32 + i]? = kRcX1_leafYear_1[i]? := kstep katcX1_leafYear_0 (C := kCcX1_leafYear_0) rfl rfl
theorem kBcX1_leafYear_0 {b : Nat} (p : Nat) (hp : Nat.ble 0 p = true) (h : kCcX1_leafYear_0[p - 0]? = some b) : kb cX1_leafYear p b := kin katcX1_leafYear_0 rfl hp h
theorem kBcX1_leafYear_1 {b : Nat} (p : Nat) (hp : Nat.ble 32 p = true) (h : kCcX1_leafYear_1[p - 32]? = some b) : kb cX1_leafYear p b := kin katcX1_leafYear_1 rfl hp h
theorem dX1_leafYear_0 : decode cX1_leafYear 0 = .ok (.iload_n 1, 1) := dz_27 (kBcX1_leafYear_0 0 rfl rfl)
theorem dX1_leafYear_1 : decode cX1_leafYear 1 = .ok (.invokestatic 40, 3) := dz_184 (kBcX1_leafYear_0 1 rfl rfl) (kBcX1_leafYear_0 2 rfl rfl) (kBcX1_leafYear_0 3 rfl rfl) rfl
theorem dX1_leafYear_4 : decode cX1_leafYear 4 = .ok (.iload_n 2, 1) := dz_28 (kBcX1_leafYear_0 4 rfl rfl)
theorem dX1_leafYear_5 : decode cX1_leafYear 5 = .ok (.invokestatic 44, 3) := dz_184 (kBcX1_leafYear_0 5 rfl rfl) (kBcX1_leafYear_0 6 rfl rfl) (kBcX1_leafYear_0 7 rfl rfl) rfl
theorem dX1_leafYear_8 : decode cX1_leafYear 8 = .ok (.aload_n 0, 1) := dz_42 (kBcX1_leafYear_0 8 rfl rfl)
theorem dX1_leafYear_9 : decode cX1_leafYear 9 = .ok (.getfield 9, 3) := dz_180 (kBcX1_leafYear_0 9 rfl rfl) (kBcX1_leafYear_0 10 rfl rfl) (kBcX1_leafYear_0 11 rfl rfl) rfl
theorem dX1_leafYear_12 : decode cX1_leafYear 12 = .ok (.iload_n 1, 1) := dz_27 (kBcX1_leafYear_0 12 rfl rfl)
theorem dX1_leafYear_13 : decode cX1_leafYear 13 = .ok (.laload, 1) := dz_47 (kBcX1_leafYear_0 13 rfl rfl)
theorem dX1_leafYear_14 : decode cX1_leafYear 14 = .ok (.lstore_n 3, 1) := dz_66 (kBcX1_leafYear_0 14 rfl rfl)
theorem dX1_leafYear_15 : decode cX1_leafYear 15 = .ok (.aload_n 0, 1) := dz_42 (kBcX1_leafYear_0 15 rfl rfl)
theorem dX1_leafYear_16 : decode cX1_leafYear 16 = .ok (.iload_n 1, 1) := dz_27 (kBcX1_leafYear_0 16 rfl rfl)
theorem dX1_leafYear_17 : decode cX1_leafYear 17 = .ok (.iload_n 2, 1) := dz_28 (kBcX1_leafYear_0 17 rfl rfl)
theorem dX1_leafYear_18 : decode cX1_leafYear 18 = .ok (.lload_n 3, 1) := dz_33 (kBcX1_leafYear_0 18 rfl rfl)
theorem dX1_leafYear_19 : decode cX1_leafYear 19 = .ok (.invokestatic 77, 3) := dz_184 (kBcX1_leafYear_0 19 rfl rfl) (kBcX1_leafYear_0 20 rfl rfl) (kBcX1_leafYear_0 21 rfl rfl) rfl
theorem dX1_leafYear_22 : decode cX1_leafYear 22 = .ok (.invokestatic 50, 3) := dz_184 (kBcX1_leafYear_0 22 rfl rfl) (kBcX1_leafYear_0 23 rfl rfl) (kBcX1_leafYear_0 24 rfl rfl) rfl
theorem dX1_leafYear_25 : decode cX1_leafYear 25 = .ok (.invokevirtual 56, 3) := dz_182 (kBcX1_leafYear_0 25 rfl rfl) (kBcX1_leafYear_0 26 rfl rfl) (kBcX1_leafYear_0 27 rfl rfl) rfl
theorem dX1_leafYear_28 : decode cX1_leafYear 28 = .ok (.pop, 1) := dz_87 (kBcX1_leafYear_0 28 rfl rfl)
theorem dX1_leafYear_29 : decode cX1_leafYear 29 = .ok (.lload_n 3, 1) := dz_33 (kBcX1_leafYear_0 29 rfl rfl)
theorem dX1_leafYear_30 : decode cX1_leafYear 30 = .ok (.invokestatic 81, 3) := dz_184 (kBcX1_leafYear_0 30 rfl rfl) (kBcX1_leafYear_0 31 rfl rfl) (kBcX1_leafYear_1 32 rfl rfl) rfl
theorem dX1_leafYear_33 : decode cX1_leafYear 33 = .ok (.ireturn, 1) := dz_172 (kBcX1_leafYear_1 33 rfl rfl)
def kCcX1_leafMonth_0 : List Nat := [27, 184, 0, 40, 28, 184, 0, 47, 42, 180, 0, 9, 27, 47, 66, 42, 27, 33, 184, 0, 81, 28, 184, 0, 50, 182, 0, 56, 87, 33, 184, 0]
def kCcX1_leafMonth_1 : List Nat := [77, 172]
def kRcX1_leafMonth_2 : List Nat := []
def kRcX1_leafMonth_1 : List Nat := kCcX1_leafMonth_1 ++ kRcX1_leafMonth_2
def kRcX1_leafMonth_0 : List Nat := kCcX1_leafMonth_0 ++ kRcX1_leafMonth_1
theorem kRcX1_leafMonth_eq : cX1_leafMonth.data.toList.map UInt8.toNat = kRcX1_leafMonth_0 := by decide +kernel
theorem katcX1_leafMonth_0 (i : Nat) : (cX1_leafMonth.data.toList.map UInt8.toNat)[0 + i]? = kRcX1_leafMonth_0[i]? := by rw [kRcX1_leafMonth_eq, Nat.zero_add]
theorem katcX1_leafMonth_1 : ∀ i : Nat, (cX1_leafMonth.data.toList.map UInt8.toNat)[32 + i]? = kRcX1_leafMonth_1[i]? := kstep katcX1_leafMonth_0 (C := kCcX1_leafMonth_0) rfl rfl
theorem kBcX1_leafMonth_0 {b : Nat} (p : Nat) (hp : Nat.ble 0 p = true) (h : kCcX1_leafMonth_0[p - 0]? = some b) : kb cX1_leafMonth p b := kin katcX1_leafMonth_0 rfl hp h
theorem kBcX1_leafMonth_1 {b : Nat} (p : Nat) (hp : Nat.ble 32 p = true) (h : kCcX1_leafMonth_1[p - 32]? = some b) : kb cX1_leafMonth p b := kin katcX1_leafMonth_1 rfl hp h
theorem dX1_leafMonth_0 : decode cX1_leafMonth 0 = .ok (.iload_n 1, 1) := dz_27 (kBcX1_leafMonth_0 0 rfl rfl)
theorem dX1_leafMonth_1 : decode cX1_leafMonth 1 = .ok (.invokestatic 40, 3) := dz_184 (kBcX1_leafMonth_0 1 rfl rfl) (kBcX1_leafMonth_0 2 rfl rfl) (kBcX1_leafMonth_0 3 rfl rfl) rfl
theorem dX1_leafMonth_4 : decode cX1_leafMonth 4 = .ok (.iload_n 2, 1) := dz_28 (kBcX1_leafMonth_0 4 rfl rfl)
theorem dX1_leafMonth_5 : decode cX1_leafMonth 5 = .ok (.invokestatic 47, 3) := dz_184 (kBcX1_leafMonth_0 5 rfl rfl) (kBcX1_leafMonth_0 6 rfl rfl) (kBcX1_leafMonth_0 7 rfl rfl) rfl
theorem dX1_leafMonth_8 : decode cX1_leafMonth 8 = .ok (.aload_n 0, 1) := dz_42 (kBcX1_leafMonth_0 8 rfl rfl)
theorem dX1_leafMonth_9 : decode cX1_leafMonth 9 = .ok (.getfield 9, 3) := dz_180 (kBcX1_leafMonth_0 9 rfl rfl) (kBcX1_leafMonth_0 10 rfl rfl) (kBcX1_leafMonth_0 11 rfl rfl) rfl
theorem dX1_leafMonth_12 : decode cX1_leafMonth 12 = .ok (.iload_n 1, 1) := dz_27 (kBcX1_leafMonth_0 12 rfl rfl)
theorem dX1_leafMonth_13 : decode cX1_leafMonth 13 = .ok (.laload, 1) := dz_47 (kBcX1_leafMonth_0 13 rfl rfl)
theorem dX1_leafMonth_14 : decode cX1_leafMonth 14 = .ok (.lstore_n 3, 1) := dz_66 (kBcX1_leafMonth_0 14 rfl rfl)
theorem dX1_leafMonth_15 : decode cX1_leafMonth 15 = .ok (.aload_n 0, 1) := dz_42 (kBcX1_leafMonth_0 15 rfl rfl)
theorem dX1_leafMonth_16 : decode cX1_leafMonth 16 = .ok (.iload_n 1, 1) := dz_27 (kBcX1_leafMonth_0 16 rfl rfl)
theorem dX1_leafMonth_17 : decode cX1_leafMonth 17 = .ok (.lload_n 3, 1) := dz_33 (kBcX1_leafMonth_0 17 rfl rfl)
theorem dX1_leafMonth_18 : decode cX1_leafMonth 18 = .ok (.invokestatic 81, 3) := dz_184 (kBcX1_leafMonth_0 18 rfl rfl) (kBcX1_leafMonth_0 19 rfl rfl) (kBcX1_leafMonth_0 20 rfl rfl) rfl
theorem dX1_leafMonth_21 : decode cX1_leafMonth 21 = .ok (.iload_n 2, 1) := dz_28 (kBcX1_leafMonth_0 21 rfl rfl)
theorem dX1_leafMonth_22 : decode cX1_leafMonth 22 = .ok (.invokestatic 50, 3) := dz_184 (kBcX1_leafMonth_0 22 rfl rfl) (kBcX1_leafMonth_0 23 rfl rfl) (kBcX1_leafMonth_0 24 rfl rfl) rfl
theorem dX1_leafMonth_25 : decode cX1_leafMonth 25 = .ok (.invokevirtual 56, 3) := dz_182 (kBcX1_leafMonth_0 25 rfl rfl) (kBcX1_leafMonth_0 26 rfl rfl) (kBcX1_leafMonth_0 27 rfl rfl) rfl
theorem dX1_leafMonth_28 : decode cX1_leafMonth 28 = .ok (.pop, 1) := dz_87 (kBcX1_leafMonth_0 28 rfl rfl)
theorem dX1_leafMonth_29 : decode cX1_leafMonth 29 = .ok (.lload_n 3, 1) := dz_33 (kBcX1_leafMonth_0 29 rfl rfl)
theorem dX1_leafMonth_30 : decode cX1_leafMonth 30 = .ok (.invokestatic 77, 3) := dz_184 (kBcX1_leafMonth_0 30 rfl rfl) (kBcX1_leafMonth_0 31 rfl rfl) (kBcX1_leafMonth_1 32 rfl rfl) rfl
theorem dX1_leafMonth_33 : decode cX1_leafMonth 33 = .ok (.ireturn, 1) := dz_172 (kBcX1_leafMonth_1 33 rfl rfl)
def kCcX1_leafWith_0 : List Nat := [27, 184, 0, 40, 28, 3, 7, 184, 0, 71, 28, 7, 160, 0, 11, 42, 27, 29, 133, 182, 0, 56, 172, 42, 180, 0, 9, 27, 47, 184, 0, 81]
def kCcX1_leafWith_1 : List Nat := [54, 4, 28, 154, 0, 19, 29, 184, 0, 47, 42, 27, 21, 4, 29, 184, 0, 50, 182, 0, 56, 172, 28, 4, 100, 29, 184, 0, 84, 21, 4, 28]
def kCcX1_leafWith_2 : List Nat := [4, 100, 29, 184, 0, 88, 54, 5, 42, 27, 21, 5, 42, 180, 0, 9, 27, 47, 184, 0, 77, 184, 0, 50, 182, 0, 56, 172]
def kRcX1_leafWith_3 : List Nat := []
def kRcX1_leafWith_2 : List Nat := kCcX1_leafWith_2 ++ kRcX1_leafWith_3
def kRcX1_leafWith_1 : List Nat := kCcX1_leafWith_1 ++ kRcX1_leafWith_2
def kRcX1_leafWith_0 : List Nat := kCcX1_leafWith_0 ++ kRcX1_leafWith_1
theorem kRcX1_leafWith_eq : cX1_leafWith.data.toList.map UInt8.toNat = kRcX1_leafWith_0 := by decide +kernel
theorem katcX1_leafWith_0 (i : Nat) : (cX1_leafWith.data.toList.map UInt8.toNat)[0 + i]? = kRcX1_leafWith_0[i]? := by rw [kRcX1_leafWith_eq, Nat.zero_add]
theorem katcX1_leafWith_1 : ∀ i : Nat, (cX1_leafWith.data.toList.map UInt8.toNat)[32 + i]? = kRcX1_leafWith_1[i]? := kstep katcX1_leafWith_0 (C := kCcX1_leafWith_0) rfl rfl
theorem katcX1_leafWith_2 : ∀ i : Nat, (cX1_leafWith.data.toList.map UInt8.toNat)[64 + i]? = kRcX1_leafWith_2[i]? := kstep katcX1_leafWith_1 (C := kCcX1_leafWith_1) rfl rfl
theorem kBcX1_leafWith_0 {b : Nat} (p : Nat) (hp : Nat.ble 0 p = true) (h : kCcX1_leafWith_0[p - 0]? = some b) : kb cX1_leafWith p b := kin katcX1_leafWith_0 rfl hp h
theorem kBcX1_leafWith_1 {b : Nat} (p : Nat) (hp : Nat.ble 32 p = true) (h : kCcX1_leafWith_1[p - 32]? = some b) : kb cX1_leafWith p b := kin katcX1_leafWith_1 rfl hp h
theorem kBcX1_leafWith_2 {b : Nat} (p : Nat) (hp : Nat.ble 64 p = true) (h : kCcX1_leafWith_2[p - 64]? = some b) : kb cX1_leafWith p b := kin katcX1_leafWith_2 rfl hp h
theorem dX1_leafWith_0 : decode cX1_leafWith 0 = .ok (.iload_n 1, 1) := dz_27 (kBcX1_leafWith_0 0 rfl rfl)
theorem dX1_leafWith_1 : decode cX1_leafWith 1 = .ok (.invokestatic 40, 3) := dz_184 (kBcX1_leafWith_0 1 rfl rfl) (kBcX1_leafWith_0 2 rfl rfl) (kBcX1_leafWith_0 3 rfl rfl) rfl
theorem dX1_leafWith_4 : decode cX1_leafWith 4 = .ok (.iload_n 2, 1) := dz_28 (kBcX1_leafWith_0 4 rfl rfl)
theorem dX1_leafWith_5 : decode cX1_leafWith 5 = .ok (.iconst 0, 1) := dz_3 (kBcX1_leafWith_0 5 rfl rfl)
theorem dX1_leafWith_6 : decode cX1_leafWith 6 = .ok (.iconst 4, 1) := dz_7 (kBcX1_leafWith_0 6 rfl rfl)
theorem dX1_leafWith_7 : decode cX1_leafWith 7 = .ok (.invokestatic 71, 3) := dz_184 (kBcX1_leafWith_0 7 rfl rfl) (kBcX1_leafWith_0 8 rfl rfl) (kBcX1_leafWith_0 9 rfl rfl) rfl
theorem dX1_leafWith_10 : decode cX1_leafWith 10 = .ok (.iload_n 2, 1) := dz_28 (kBcX1_leafWith_0 10 rfl rfl)
theorem dX1_leafWith_11 : decode cX1_leafWith 11 = .ok (.iconst 4, 1) := dz_7 (kBcX1_leafWith_0 11 rfl rfl)
theorem dX1_leafWith_12 : decode cX1_leafWith 12 = .ok (.if_icmp .ne 11, 3) := dz_160 (kBcX1_leafWith_0 12 rfl rfl) (kBcX1_leafWith_0 13 rfl rfl) (kBcX1_leafWith_0 14 rfl rfl) rfl
theorem dX1_leafWith_15 : decode cX1_leafWith 15 = .ok (.aload_n 0, 1) := dz_42 (kBcX1_leafWith_0 15 rfl rfl)
theorem dX1_leafWith_16 : decode cX1_leafWith 16 = .ok (.iload_n 1, 1) := dz_27 (kBcX1_leafWith_0 16 rfl rfl)
theorem dX1_leafWith_17 : decode cX1_leafWith 17 = .ok (.iload_n 3, 1) := dz_29 (kBcX1_leafWith_0 17 rfl rfl)
theorem dX1_leafWith_18 : decode cX1_leafWith 18 = .ok (.i2l, 1) := dz_133 (kBcX1_leafWith_0 18 rfl rfl)
theorem dX1_leafWith_19 : decode cX1_leafWith 19 = .ok (.invokevirtual 56, 3) := dz_182 (kBcX1_leafWith_0 19 rfl rfl) (kBcX1_leafWith_0 20 rfl rfl) (kBcX1_leafWith_0 21 rfl rfl) rfl
theorem dX1_leafWith_22 : decode cX1_leafWith 22 = .ok (.ireturn, 1) := dz_172 (kBcX1_leafWith_0 22 rfl rfl)
theorem dX1_leafWith_23 : decode cX1_leafWith 23 = .ok (.aload_n 0, 1) := dz_42 (kBcX1_leafWith_0 23 rfl rfl)
theorem dX1_leafWith_24 : decode cX1_leafWith 24 = .ok (.getfield 9, 3) := dz_180 (kBcX1_leafWith_0 24 rfl rfl) (kBcX1_leafWith_0 25 rfl rfl) (kBcX1_leafWith_0 26 rfl rfl) rfl
theorem dX1_leafWith_27 : decode cX1_leafWith 27 = .ok (.iload_n 1, 1) := dz_27 (kBcX1_leafWith_0 27 rfl rfl)
theorem dX1_leafWith_28 : decode cX1_leafWith 28 = .ok (.laload, 1) := dz_47 (kBcX1_leafWith_0 28 rfl rfl)
theorem dX1_leafWith_29 : decode cX1_leafWith 29 = .ok (.invokestatic 81, 3) := dz_184 (kBcX1_leafWith_0 29 rfl rfl) (kBcX1_leafWith_0 30 rfl rfl) (kBcX1_leafWith_0 31 rfl rfl) rfl
theorem dX1_leafWith_32 : decode cX1_leafWith 32 = .ok (.istore 4, 2) := dz_54 (kBcX1_leafWith_1 32 rfl rfl) (kBcX1_leafWith_1 33 rfl rfl)
theorem dX1_leafWith_34 : decode cX1_leafWith 34 = .ok (.iload_n 2, 1) := dz_28 (kBcX1_leafWith_1 34 rfl rfl)
theorem dX1_leafWith_35 : decode cX1_leafWith 35 = .ok (.ifCond .ne 19, 3) := dz_154 (kBcX1_leafWith_1 35 rfl rfl) (kBcX1_leafWith_1 36 rfl rfl) (kBcX1_leafWith_1 37 rfl rfl) rfl
theorem dX1_leafWith_38 : decode cX1_leafWith 38 = .ok (.iload_n 3, 1) := dz_29 (kBcX1_leafWith_1 38 rfl rfl)
theorem dX1_leafWith_39 : decode cX1_leafWith 39 = .ok (.invokestatic 47, 3) := dz_184 (kBcX1_leafWith_1 39 rfl rfl) (kBcX1_leafWith_1 40 rfl rfl) (kBcX1_leafWith_1 41 rfl rfl) rfl
theorem dX1_leafWith_42 : decode cX1_leafWith 42 = .ok (.aload_n 0, 1) := dz_42 (kBcX1_leafWith_1 42 rfl rfl)
theorem dX1_leafWith_43 : decode cX1_leafWith 43 = .ok (.iload_n 1, 1) := dz_27 (kBcX1_leafWith_1 43 rfl rfl)
theorem dX1_leafWith_44 : decode cX1_leafWith 44 = .ok (.iload 4, 2) := dz_21 (kBcX1_leafWith_1 44 rfl rfl) (kBcX1_leafWith_1 45 rfl rfl)
theorem dX1_leafWith_46 : decode cX1_leafWith 46 = .ok (.iload_n 3, 1) := dz_29 (kBcX1_leafWith_1 46 rfl rfl)
theorem dX1_leafWith_47 : decode cX1_leafWith 47 = .ok (.invokestatic 50, 3) := dz_184 (kBcX1_leafWith_1 47 rfl rfl) (kBcX1_leafWith_1 48 rfl rfl) (kBcX1_leafWith_1 49 rfl rfl) rfl
theorem dX1_leafWith_50 : decode cX1_leafWith 50 = .ok (.invokevirtual 56, 3) := dz_182 (kBcX1_leafWith_1 50 rfl rfl) (kBcX1_leafWith_1 51 rfl rfl) (kBcX1_leafWith_1 52 rfl rfl) rfl
theorem dX1_leafWith_53 : decode cX1_leafWith 53 = .ok (.ireturn, 1) := dz_172 (kBcX1_leafWith_1 53 rfl rfl)
theorem dX1_leafWith_54 : decode cX1_leafWith 54 = .ok (.iload_n 2, 1) := dz_28 (kBcX1_leafWith_1 54 rfl rfl)
theorem dX1_leafWith_55 : decode cX1_leafWith 55 = .ok (.iconst 1, 1) := dz_4 (kBcX1_leafWith_1 55 rfl rfl)
theorem dX1_leafWith_56 : decode cX1_leafWith 56 = .ok (.isub, 1) := dz_100 (kBcX1_leafWith_1 56 rfl rfl)
theorem dX1_leafWith_57 : decode cX1_leafWith 57 = .ok (.iload_n 3, 1) := dz_29 (kBcX1_leafWith_1 57 rfl rfl)
theorem dX1_leafWith_58 : decode cX1_leafWith 58 = .ok (.invokestatic 84, 3) := dz_184 (kBcX1_leafWith_1 58 rfl rfl) (kBcX1_leafWith_1 59 rfl rfl) (kBcX1_leafWith_1 60 rfl rfl) rfl
theorem dX1_leafWith_61 : decode cX1_leafWith 61 = .ok (.iload 4, 2) := dz_21 (kBcX1_leafWith_1 61 rfl rfl) (kBcX1_leafWith_1 62 rfl rfl)
theorem dX1_leafWith_63 : decode cX1_leafWith 63 = .ok (.iload_n 2, 1) := dz_28 (kBcX1_leafWith_1 63 rfl rfl)
theorem dX1_leafWith_64 : decode cX1_leafWith 64 = .ok (.iconst 1, 1) := dz_4 (kBcX1_leafWith_2 64 rfl rfl)
theorem dX1_leafWith_65 : decode cX1_leafWith 65 = .ok (.isub, 1) := dz_100 (kBcX1_leafWith_2 65 rfl rfl)
theorem dX1_leafWith_66 : decode cX1_leafWith 66 = .ok (.iload_n 3, 1) := dz_29 (kBcX1_leafWith_2 66 rfl rfl)
theorem dX1_leafWith_67 : decode cX1_leafWith 67 = .ok (.invokestatic 88, 3) := dz_184 (kBcX1_leafWith_2 67 rfl rfl) (kBcX1_leafWith_2 68 rfl rfl) (kBcX1_leafWith_2 69 rfl rfl) rfl
theorem dX1_leafWith_70 : decode cX1_leafWith 70 = .ok (.istore 5, 2) := dz_54 (kBcX1_leafWith_2 70 rfl rfl) (kBcX1_leafWith_2 71 rfl rfl)
theorem dX1_leafWith_72 : decode cX1_leafWith 72 = .ok (.aload_n 0, 1) := dz_42 (kBcX1_leafWith_2 72 rfl rfl)
theorem dX1_leafWith_73 : decode cX1_leafWith 73 = .ok (.iload_n 1, 1) := dz_27 (kBcX1_leafWith_2 73 rfl rfl)
theorem dX1_leafWith_74 : decode cX1_leafWith 74 = .ok (.iload 5, 2) := dz_21 (kBcX1_leafWith_2 74 rfl rfl) (kBcX1_leafWith_2 75 rfl rfl)
theorem dX1_leafWith_76 : decode cX1_leafWith 76 = .ok (.aload_n 0, 1) := dz_42 (kBcX1_leafWith_2 76 rfl rfl)
theorem dX1_leafWith_77 : decode cX1_leafWith 77 = .ok (.getfield 9, 3) := dz_180 (kBcX1_leafWith_2 77 rfl rfl) (kBcX1_leafWith_2 78 rfl rfl) (kBcX1_leafWith_2 79 rfl rfl) rfl
theorem dX1_leafWith_80 : decode cX1_leafWith 80 = .ok (.iload_n 1, 1) := dz_27 (kBcX1_leafWith_2 80 rfl rfl)
theorem dX1_leafWith_81 : decode cX1_leafWith 81 = .ok (.laload, 1) := dz_47 (kBcX1_leafWith_2 81 rfl rfl)
theorem dX1_leafWith_82 : decode cX1_leafWith 82 = .ok (.invokestatic 77, 3) := dz_184 (kBcX1_leafWith_2 82 rfl rfl) (kBcX1_leafWith_2 83 rfl rfl) (kBcX1_leafWith_2 84 rfl rfl) rfl
theorem dX1_leafWith_85 : decode cX1_leafWith 85 = .ok (.invokestatic 50, 3) := dz_184 (kBcX1_leafWith_2 85 rfl rfl) (kBcX1_leafWith_2 86 rfl rfl) (kBcX1_leafWith_2 87 rfl rfl) rfl
theorem dX1_leafWith_88 : decode cX1_leafWith 88 = .ok (.invokevirtual 56, 3) := dz_182 (kBcX1_leafWith_2 88 rfl rfl) (kBcX1_leafWith_2 89 rfl rfl) (kBcX1_leafWith_2 90 rfl rfl) rfl
theorem dX1_leafWith_91 : decode cX1_leafWith 91 = .ok (.ireturn, 1) := dz_172 (kBcX1_leafWith_2 91 rfl rfl)
def kCcX1_leafOf_0 : List Nat := [27, 184, 0, 40, 28, 184, 0, 40, 29, 184, 0, 47, 42, 27, 42, 180, 0, 13, 28, 46, 29, 184, 0, 50, 182, 0, 56, 172]
theorem kRcX1_leafOf_eq : cX1_leafOf.data.toList.map UInt8.toNat = kCcX1_leafOf_0 := by decide +kernel
theorem dX1_leafOf_0 : decode cX1_leafOf 0 = .ok (.iload_n 1, 1) := dz_27 (kin0 (p := 0) kRcX1_leafOf_eq rfl)
theorem dX1_leafOf_1 : decode cX1_leafOf 1 = .ok (.invokestatic 40, 3) := dz_184 (kin0 (p := 1) kRcX1_leafOf_eq rfl) (kin0 (p := 2) kRcX1_leafOf_eq rfl) (kin0 (p := 3) kRcX1_leafOf_eq rfl) rfl
theorem dX1_leafOf_4 : decode cX1_leafOf 4 = .ok (.iload_n 2, 1) := dz_28 (kin0 (p := 4) kRcX1_leafOf_eq rfl)
theorem dX1_leafOf_5 : decode cX1_leafOf 5 = .ok (.invokestatic 40, 3) := dz_184 (kin0 (p := 5) kRcX1_leafOf_eq rfl) (kin0 (p := 6) kRcX1_leafOf_eq rfl) (kin0 (p := 7) kRcX1_leafOf_eq rfl) rfl
theorem dX1_leafOf_8 : decode cX1_leafOf 8 = .ok (.iload_n 3, 1) := dz_29 (kin0 (p := 8) kRcX1_leafOf_eq rfl)
theorem dX1_leafOf_9 : decode cX1_leafOf 9 = .ok (.invokestatic 47, 3) := dz_184 (kin0 (p := 9) kRcX1_leafOf_eq rfl) (kin0 (p := 10) kRcX1_leafOf_eq rfl) (kin0 (p := 11) kRcX1_leafOf_eq rfl) rfl
theorem dX1_leafOf_12 : decode cX1_leafOf 12 = .ok (.aload_n 0, 1) := dz_42 (kin0 (p := 12) kRcX1_leafOf_eq rfl)
theorem dX1_leafOf_13 : decode cX1_leafOf 13 = .ok (.iload_n 1, 1) := dz_27 (kin0 (p := 13) kRcX1_leafOf_eq rfl)
theorem dX1_leafOf_14 : decode cX1_leafOf 14 = .ok (.aload_n 0, 1) := dz_42 (kin0 (p := 14) kRcX1_leafOf_eq rfl)
theorem dX1_leafOf_15 : decode cX1_leafOf 15 = .ok (.getfield 13, 3) := dz_180 (kin0 (p := 15) kRcX1_leafOf_eq rfl) (kin0 (p := 16) kRcX1_leafOf_eq rfl) (kin0 (p := 17) kRcX1_leafOf_eq rfl) rfl
theorem dX1_leafOf_18 : decode cX1_leafOf 18 = .ok (.iload_n 2, 1) := dz_28 (kin0 (p := 18) kRcX1_leafOf_eq rfl)
theorem dX1_leafOf_19 : decode cX1_leafOf 19 = .ok (.iaload, 1) := dz_46 (kin0 (p := 19) kRcX1_leafOf_eq rfl)
theorem dX1_leafOf_20 : decode cX1_leafOf 20 = .ok (.iload_n 3, 1) := dz_29 (kin0 (p := 20) kRcX1_leafOf_eq rfl)
theorem dX1_leafOf_21 : decode cX1_leafOf 21 = .ok (.invokestatic 50, 3) := dz_184 (kin0 (p := 21) kRcX1_leafOf_eq rfl) (kin0 (p := 22) kRcX1_leafOf_eq rfl) (kin0 (p := 23) kRcX1_leafOf_eq rfl) rfl
theorem dX1_leafOf_24 : decode cX1_leafOf 24 = .ok (.invokevirtual 56, 3) := dz_182 (kin0 (p := 24) kRcX1_leafOf_eq rfl) (kin0 (p := 25) kRcX1_leafOf_eq rfl) (kin0 (p := 26) kRcX1_leafOf_eq rfl) rfl
theorem dX1_leafOf_27 : decode cX1_leafOf 27 = .ok (.ireturn, 1) := dz_172 (kin0 (p := 27) kRcX1_leafOf_eq rfl)
def kCcX1_leafOfRound_0 : List Nat := [27, 184, 0, 40, 28, 184, 0, 40, 29, 184, 0, 60, 54, 4, 42, 27, 42, 180, 0, 13, 28, 46, 21, 4, 184, 0, 50, 182, 0, 56, 87, 21]
def kCcX1_leafOfRound_1 : List Nat := [4, 172]
def kRcX1_leafOfRound_2 : List Nat := []
def kRcX1_leafOfRound_1 : List Nat := kCcX1_leafOfRound_1 ++ kRcX1_leafOfRound_2
def kRcX1_leafOfRound_0 : List Nat := kCcX1_leafOfRound_0 ++ kRcX1_leafOfRound_1
theorem kRcX1_leafOfRound_eq : cX1_leafOfRound.data.toList.map UInt8.toNat = kRcX1_leafOfRound_0 := by decide +kernel
theorem katcX1_leafOfRound_0 (i : Nat) : (cX1_leafOfRound.data.toList.map UInt8.toNat)[0 + i]? = kRcX1_leafOfRound_0[i]? := by rw [kRcX1_leafOfRound_eq, Nat.zero_add]
theorem katcX1_leafOfRound_1 : ∀ i : Nat, (cX1_leafOfRound.data.toList.map UInt8.toNat)[32 + i]? = kRcX1_leafOfRound_1[i]? := kstep katcX1_leafOfRound_0 (C := kCcX1_leafOfRound_0) rfl rfl
theorem kBcX1_leafOfRound_0 {b : Nat} (p : Nat) (hp : Nat.ble 0 p = true) (h : kCcX1_leafOfRound_0[p - 0]? = some b) : kb cX1_leafOfRound p b := kin katcX1_leafOfRound_0 rfl hp h
theorem kBcX1_leafOfRound_1 {b : Nat} (p : Nat) (hp : Nat.ble 32 p = true) (h : kCcX1_leafOfRound_1[p - 32]? = some b) : kb cX1_leafOfRound p b := kin katcX1_leafOfRound_1 rfl hp h
theorem dX1_leafOfRound_0 : decode cX1_leafOfRound 0 = .ok (.iload_n 1, 1) := dz_27 (kBcX1_leafOfRound_0 0 rfl rfl)
theorem dX1_leafOfRound_1 : decode cX1_leafOfRound 1 = .ok (.invokestatic 40, 3) := dz_184 (kBcX1_leafOfRound_0 1 rfl rfl) (kBcX1_leafOfRound_0 2 rfl rfl) (kBcX1_leafOfRound_0 3 rfl rfl) rfl
theorem dX1_leafOfRound_4 : decode cX1_leafOfRound 4 = .ok (.iload_n 2, 1) := dz_28 (kBcX1_leafOfRound_0 4 rfl rfl)
theorem dX1_leafOfRound_5 : decode cX1_leafOfRound 5 = .ok (.invokestatic 40, 3) := dz_184 (kBcX1_leafOfRound_0 5 rfl rfl) (kBcX1_leafOfRound_0 6 rfl rfl) (kBcX1_leafOfRound_0 7 rfl rfl) rfl
theorem dX1_leafOfRound_8 : decode cX1_leafOfRound 8 = .ok (.iload_n 3, 1) := dz_29 (kBcX1_leafOfRound_0 8 rfl rfl)
theorem dX1_leafOfRound_9 : decode cX1_leafOfRound 9 = .ok (.invokestatic 60, 3) := dz_184 (kBcX1_leafOfRound_0 9 rfl rfl) (kBcX1_leafOfRound_0 10 rfl rfl) (kBcX1_leafOfRound_0 11 rfl rfl) rfl
theorem dX1_leafOfRound_12 : decode cX1_leafOfRound 12 = .ok (.istore 4, 2) := dz_54 (kBcX1_leafOfRound_0 12 rfl rfl) (kBcX1_leafOfRound_0 13 rfl rfl)
theorem dX1_leafOfRound_14 : decode cX1_leafOfRound 14 = .ok (.aload_n 0, 1) := dz_42 (kBcX1_leafOfRound_0 14 rfl rfl)
theorem dX1_leafOfRound_15 : decode cX1_leafOfRound 15 = .ok (.iload_n 1, 1) := dz_27 (kBcX1_leafOfRound_0 15 rfl rfl)
theorem dX1_leafOfRound_16 : decode cX1_leafOfRound 16 = .ok (.aload_n 0, 1) := dz_42 (kBcX1_leafOfRound_0 16 rfl rfl)
theorem dX1_leafOfRound_17 : decode cX1_leafOfRound 17 = .ok (.getfield 13, 3) := dz_180 (kBcX1_leafOfRound_0 17 rfl rfl) (kBcX1_leafOfRound_0 18 rfl rfl) (kBcX1_leafOfRound_0 19 rfl rfl) rfl
theorem dX1_leafOfRound_20 : decode cX1_leafOfRound 20 = .ok (.iload_n 2, 1) := dz_28 (kBcX1_leafOfRound_0 20 rfl rfl)
theorem dX1_leafOfRound_21 : decode cX1_leafOfRound 21 = .ok (.iaload, 1) := dz_46 (kBcX1_leafOfRound_0 21 rfl rfl)
theorem dX1_leafOfRound_22 : decode cX1_leafOfRound 22 = .ok (.iload 4, 2) := dz_21 (kBcX1_leafOfRound_0 22 rfl rfl) (kBcX1_leafOfRound_0 23 rfl rfl)
theorem dX1_leafOfRound_24 : decode cX1_leafOfRound 24 = .ok (.invokestatic 50, 3) := dz_184 (kBcX1_leafOfRound_0 24 rfl rfl) (kBcX1_leafOfRound_0 25 rfl rfl) (kBcX1_leafOfRound_0 26 rfl rfl) rfl
theorem dX1_leafOfRound_27 : decode cX1_leafOfRound 27 = .ok (.invokevirtual 56, 3) := dz_182 (kBcX1_leafOfRound_0 27 rfl rfl) (kBcX1_leafOfRound_0 28 rfl rfl) (kBcX1_leafOfRound_0 29 rfl rfl) rfl
theorem dX1_leafOfRound_30 : decode cX1_leafOfRound 30 = .ok (.pop, 1) := dz_87 (kBcX1_leafOfRound_0 30 rfl rfl)
theorem dX1_leafOfRound_31 : decode cX1_leafOfRound 31 = .ok (.iload 4, 2) := dz_21 (kBcX1_leafOfRound_0 31 rfl rfl) (kBcX1_leafOfRound_1 32 rfl rfl)
theorem dX1_leafOfRound_33 : decode cX1_leafOfRound 33 = .ok (.ireturn, 1) := dz_172 (kBcX1_leafOfRound_1 33 rfl rfl)
def kCcX1_leafOfDay_0 : List Nat := [27, 184, 0, 40, 28, 184, 0, 40, 42, 27, 42, 180, 0, 23, 28, 47, 182, 0, 56, 172]
theorem kRcX1_leafOfDay_eq : cX1_leafOfDay.data.toList.map UInt8.toNat = kCcX1_leafOfDay_0 := by decide +kernel
theorem dX1_leafOfDay_0 : decode cX1_leafOfDay 0 = .ok (.iload_n 1, 1) := dz_27 (kin0 (p := 0) kRcX1_leafOfDay_eq rfl)
theorem dX1_leafOfDay_1 : decode cX1_leafOfDay 1 = .ok (.invokestatic 40, 3) := dz_184 (kin0 (p := 1) kRcX1_leafOfDay_eq rfl) (kin0 (p := 2) kRcX1_leafOfDay_eq rfl) (kin0 (p := 3) kRcX1_leafOfDay_eq rfl) rfl
theorem dX1_leafOfDay_4 : decode cX1_leafOfDay 4 = .ok (.iload_n 2, 1) := dz_28 (kin0 (p := 4) kRcX1_leafOfDay_eq rfl)
theorem dX1_leafOfDay_5 : decode cX1_leafOfDay 5 = .ok (.invokestatic 40, 3) := dz_184 (kin0 (p := 5) kRcX1_leafOfDay_eq rfl) (kin0 (p := 6) kRcX1_leafOfDay_eq rfl) (kin0 (p := 7) kRcX1_leafOfDay_eq rfl) rfl
theorem dX1_leafOfDay_8 : decode cX1_leafOfDay 8 = .ok (.aload_n 0, 1) := dz_42 (kin0 (p := 8) kRcX1_leafOfDay_eq rfl)
theorem dX1_leafOfDay_9 : decode cX1_leafOfDay 9 = .ok (.iload_n 1, 1) := dz_27 (kin0 (p := 9) kRcX1_leafOfDay_eq rfl)
theorem dX1_leafOfDay_10 : decode cX1_leafOfDay 10 = .ok (.aload_n 0, 1) := dz_42 (kin0 (p := 10) kRcX1_leafOfDay_eq rfl)
theorem dX1_leafOfDay_11 : decode cX1_leafOfDay 11 = .ok (.getfield 23, 3) := dz_180 (kin0 (p := 11) kRcX1_leafOfDay_eq rfl) (kin0 (p := 12) kRcX1_leafOfDay_eq rfl) (kin0 (p := 13) kRcX1_leafOfDay_eq rfl) rfl
theorem dX1_leafOfDay_14 : decode cX1_leafOfDay 14 = .ok (.iload_n 2, 1) := dz_28 (kin0 (p := 14) kRcX1_leafOfDay_eq rfl)
theorem dX1_leafOfDay_15 : decode cX1_leafOfDay 15 = .ok (.laload, 1) := dz_47 (kin0 (p := 15) kRcX1_leafOfDay_eq rfl)
theorem dX1_leafOfDay_16 : decode cX1_leafOfDay 16 = .ok (.invokevirtual 56, 3) := dz_182 (kin0 (p := 16) kRcX1_leafOfDay_eq rfl) (kin0 (p := 17) kRcX1_leafOfDay_eq rfl) (kin0 (p := 18) kRcX1_leafOfDay_eq rfl) rfl
theorem dX1_leafOfDay_19 : decode cX1_leafOfDay 19 = .ok (.ireturn, 1) := dz_172 (kin0 (p := 19) kRcX1_leafOfDay_eq rfl)
def kCcX1_leafLike_0 : List Nat := [27, 184, 0, 40, 28, 184, 0, 40, 42, 180, 0, 9, 27, 47, 42, 180, 0, 9, 28, 47, 148, 154, 0, 7, 4, 167, 0, 4, 3, 184, 0, 92]
def kCcX1_leafLike_1 : List Nat := [62, 42, 180, 0, 9, 27, 42, 180, 0, 9, 28, 47, 80, 29, 172]
def kRcX1_leafLike_2 : List Nat := []
def kRcX1_leafLike_1 : List Nat := kCcX1_leafLike_1 ++ kRcX1_leafLike_2
def kRcX1_leafLike_0 : List Nat := kCcX1_leafLike_0 ++ kRcX1_leafLike_1
theorem kRcX1_leafLike_eq : cX1_leafLike.data.toList.map UInt8.toNat = kRcX1_leafLike_0 := by decide +kernel
theorem katcX1_leafLike_0 (i : Nat) : (cX1_leafLike.data.toList.map UInt8.toNat)[0 + i]? = kRcX1_leafLike_0[i]? := by rw [kRcX1_leafLike_eq, Nat.zero_add]
theorem katcX1_leafLike_1 : ∀ i : Nat, (cX1_leafLike.data.toList.map UInt8.toNat)[32 + i]? = kRcX1_leafLike_1[i]? := kstep katcX1_leafLike_0 (C := kCcX1_leafLike_0) rfl rfl
theorem kBcX1_leafLike_0 {b : Nat} (p : Nat) (hp : Nat.ble 0 p = true) (h : kCcX1_leafLike_0[p - 0]? = some b) : kb cX1_leafLike p b := kin katcX1_leafLike_0 rfl hp h
theorem kBcX1_leafLike_1 {b : Nat} (p : Nat) (hp : Nat.ble 32 p = true) (h : kCcX1_leafLike_1[p - 32]? = some b) : kb cX1_leafLike p b := kin katcX1_leafLike_1 rfl hp h
theorem dX1_leafLike_0 : decode cX1_leafLike 0 = .ok (.iload_n 1, 1) := dz_27 (kBcX1_leafLike_0 0 rfl rfl)
theorem dX1_leafLike_1 : decode cX1_leafLike 1 = .ok (.invokestatic 40, 3) := dz_184 (kBcX1_leafLike_0 1 rfl rfl) (kBcX1_leafLike_0 2 rfl rfl) (kBcX1_leafLike_0 3 rfl rfl) rfl
theorem dX1_leafLike_4 : decode cX1_leafLike 4 = .ok (.iload_n 2, 1) := dz_28 (kBcX1_leafLike_0 4 rfl rfl)
theorem dX1_leafLike_5 : decode cX1_leafLike 5 = .ok (.invokestatic 40, 3) := dz_184 (kBcX1_leafLike_0 5 rfl rfl) (kBcX1_leafLike_0 6 rfl rfl) (kBcX1_leafLike_0 7 rfl rfl) rfl
theorem dX1_leafLike_8 : decode cX1_leafLike 8 = .ok (.aload_n 0, 1) := dz_42 (kBcX1_leafLike_0 8 rfl rfl)
theorem dX1_leafLike_9 : decode cX1_leafLike 9 = .ok (.getfield 9, 3) := dz_180 (kBcX1_leafLike_0 9 rfl rfl) (kBcX1_leafLike_0 10 rfl rfl) (kBcX1_leafLike_0 11 rfl rfl) rfl
theorem dX1_leafLike_12 : decode cX1_leafLike 12 = .ok (.iload_n 1, 1) := dz_27 (kBcX1_leafLike_0 12 rfl rfl)
theorem dX1_leafLike_13 : decode cX1_leafLike 13 = .ok (.laload, 1) := dz_47 (kBcX1_leafLike_0 13 rfl rfl)
theorem dX1_leafLike_14 : decode cX1_leafLike 14 = .ok (.aload_n 0, 1) := dz_42 (kBcX1_leafLike_0 14 rfl rfl)
theorem dX1_leafLike_15 : decode cX1_leafLike 15 = .ok (.getfield 9, 3) := dz_180 (kBcX1_leafLike_0 15 rfl rfl) (kBcX1_leafLike_0 16 rfl rfl) (kBcX1_leafLike_0 17 rfl rfl) rfl
theorem dX1_leafLike_18 : decode cX1_leafLike 18 = .ok (.iload_n 2, 1) := dz_28 (kBcX1_leafLike_0 18 rfl rfl)
theorem dX1_leafLike_19 : decode cX1_leafLike 19 = .ok (.laload, 1) := dz_47 (kBcX1_leafLike_0 19 rfl rfl)
theorem dX1_leafLike_20 : decode cX1_leafLike 20 = .ok (.lcmp, 1) := dz_148 (kBcX1_leafLike_0 20 rfl rfl)
theorem dX1_leafLike_21 : decode cX1_leafLike 21 = .ok (.ifCond .ne 7, 3) := dz_154 (kBcX1_leafLike_0 21 rfl rfl) (kBcX1_leafLike_0 22 rfl rfl) (kBcX1_leafLike_0 23 rfl rfl) rfl
theorem dX1_leafLike_24 : decode cX1_leafLike 24 = .ok (.iconst 1, 1) := dz_4 (kBcX1_leafLike_0 24 rfl rfl)
theorem dX1_leafLike_25 : decode cX1_leafLike 25 = .ok (.goto 4, 3) := dz_167 (kBcX1_leafLike_0 25 rfl rfl) (kBcX1_leafLike_0 26 rfl rfl) (kBcX1_leafLike_0 27 rfl rfl) rfl
theorem dX1_leafLike_28 : decode cX1_leafLike 28 = .ok (.iconst 0, 1) := dz_3 (kBcX1_leafLike_0 28 rfl rfl)
theorem dX1_leafLike_29 : decode cX1_leafLike 29 = .ok (.invokestatic 92, 3) := dz_184 (kBcX1_leafLike_0 29 rfl rfl) (kBcX1_leafLike_0 30 rfl rfl) (kBcX1_leafLike_0 31 rfl rfl) rfl
theorem dX1_leafLike_32 : decode cX1_leafLike 32 = .ok (.istore_n 3, 1) := dz_62 (kBcX1_leafLike_1 32 rfl rfl)
theorem dX1_leafLike_33 : decode cX1_leafLike 33 = .ok (.aload_n 0, 1) := dz_42 (kBcX1_leafLike_1 33 rfl rfl)
theorem dX1_leafLike_34 : decode cX1_leafLike 34 = .ok (.getfield 9, 3) := dz_180 (kBcX1_leafLike_1 34 rfl rfl) (kBcX1_leafLike_1 35 rfl rfl) (kBcX1_leafLike_1 36 rfl rfl) rfl
theorem dX1_leafLike_37 : decode cX1_leafLike 37 = .ok (.iload_n 1, 1) := dz_27 (kBcX1_leafLike_1 37 rfl rfl)
theorem dX1_leafLike_38 : decode cX1_leafLike 38 = .ok (.aload_n 0, 1) := dz_42 (kBcX1_leafLike_1 38 rfl rfl)
theorem dX1_leafLike_39 : decode cX1_leafLike 39 = .ok (.getfield 9, 3) := dz_180 (kBcX1_leafLike_1 39 rfl rfl) (kBcX1_leafLike_1 40 rfl rfl) (kBcX1_leafLike_1 41 rfl rfl) rfl
theorem dX1_leafLike_42 : decode cX1_leafLike 42 = .ok (.iload_n 2, 1) := dz_28 (kBcX1_leafLike_1 42 rfl rfl)
theorem dX1_leafLike_43 : decode cX1_leafLike 43 = .ok (.laload, 1) := dz_47 (kBcX1_leafLike_1 43 rfl rfl)
theorem dX1_leafLike_44 : decode cX1_leafLike 44 = .ok (.lastore, 1) := dz_80 (kBcX1_leafLike_1 44 rfl rfl)
theorem dX1_leafLike_45 : decode cX1_leafLike 45 = .ok (.iload_n 3, 1) := dz_29 (kBcX1_leafLike_1 45 rfl rfl)
theorem dX1_leafLike_46 : decode cX1_leafLike 46 = .ok (.ireturn, 1) := dz_172 (kBcX1_leafLike_1 46 rfl rfl)
def kCcX1_year_0 : List Nat := [27, 184, 0, 40, 28, 184, 0, 44, 42, 27, 28, 133, 182, 0, 96, 172]
theorem kRcX1_year_eq : cX1_year.data.toList.map UInt8.toNat = kCcX1_year_0 := by decide +kernel
theorem dX1_year_0 : decode cX1_year 0 = .ok (.iload_n 1, 1) := dz_27 (kin0 (p := 0) kRcX1_year_eq rfl)
theorem dX1_year_1 : decode cX1_year 1 = .ok (.invokestatic 40, 3) := dz_184 (kin0 (p := 1) kRcX1_year_eq rfl) (kin0 (p := 2) kRcX1_year_eq rfl) (kin0 (p := 3) kRcX1_year_eq rfl) rfl
theorem dX1_year_4 : decode cX1_year 4 = .ok (.iload_n 2, 1) := dz_28 (kin0 (p := 4) kRcX1_year_eq rfl)
theorem dX1_year_5 : decode cX1_year 5 = .ok (.invokestatic 44, 3) := dz_184 (kin0 (p := 5) kRcX1_year_eq rfl) (kin0 (p := 6) kRcX1_year_eq rfl) (kin0 (p := 7) kRcX1_year_eq rfl) rfl
theorem dX1_year_8 : decode cX1_year 8 = .ok (.aload_n 0, 1) := dz_42 (kin0 (p := 8) kRcX1_year_eq rfl)
theorem dX1_year_9 : decode cX1_year 9 = .ok (.iload_n 1, 1) := dz_27 (kin0 (p := 9) kRcX1_year_eq rfl)
theorem dX1_year_10 : decode cX1_year 10 = .ok (.iload_n 2, 1) := dz_28 (kin0 (p := 10) kRcX1_year_eq rfl)
theorem dX1_year_11 : decode cX1_year 11 = .ok (.i2l, 1) := dz_133 (kin0 (p := 11) kRcX1_year_eq rfl)
theorem dX1_year_12 : decode cX1_year 12 = .ok (.invokevirtual 96, 3) := dz_182 (kin0 (p := 12) kRcX1_year_eq rfl) (kin0 (p := 13) kRcX1_year_eq rfl) (kin0 (p := 14) kRcX1_year_eq rfl) rfl
theorem dX1_year_15 : decode cX1_year 15 = .ok (.ireturn, 1) := dz_172 (kin0 (p := 15) kRcX1_year_eq rfl)
def kCcX1_later_0 : List Nat := [27, 184, 0, 40, 42, 27, 28, 133, 29, 182, 0, 99, 172]
theorem kRcX1_later_eq : cX1_later.data.toList.map UInt8.toNat = kCcX1_later_0 := by decide +kernel
theorem dX1_later_0 : decode cX1_later 0 = .ok (.iload_n 1, 1) := dz_27 (kin0 (p := 0) kRcX1_later_eq rfl)
theorem dX1_later_1 : decode cX1_later 1 = .ok (.invokestatic 40, 3) := dz_184 (kin0 (p := 1) kRcX1_later_eq rfl) (kin0 (p := 2) kRcX1_later_eq rfl) (kin0 (p := 3) kRcX1_later_eq rfl) rfl
theorem dX1_later_4 : decode cX1_later 4 = .ok (.aload_n 0, 1) := dz_42 (kin0 (p := 4) kRcX1_later_eq rfl)
theorem dX1_later_5 : decode cX1_later 5 = .ok (.iload_n 1, 1) := dz_27 (kin0 (p := 5) kRcX1_later_eq rfl)
theorem dX1_later_6 : decode cX1_later 6 = .ok (.iload_n 2, 1) := dz_28 (kin0 (p := 6) kRcX1_later_eq rfl)
theorem dX1_later_7 : decode cX1_later 7 = .ok (.i2l, 1) := dz_133 (kin0 (p := 7) kRcX1_later_eq rfl)
theorem dX1_later_8 : decode cX1_later 8 = .ok (.iload_n 3, 1) := dz_29 (kin0 (p := 8) kRcX1_later_eq rfl)
theorem dX1_later_9 : decode cX1_later 9 = .ok (.invokevirtual 99, 3) := dz_182 (kin0 (p := 9) kRcX1_later_eq rfl) (kin0 (p := 10) kRcX1_later_eq rfl) (kin0 (p := 11) kRcX1_later_eq rfl) rfl
theorem dX1_later_12 : decode cX1_later 12 = .ok (.ireturn, 1) := dz_172 (kin0 (p := 12) kRcX1_later_eq rfl)
def kCcX1_yearUnits_0 : List Nat := [27, 184, 0, 40, 28, 4, 7, 184, 0, 71, 42, 27, 29, 28, 184, 0, 68, 20, 0, 102, 109, 21, 4, 182, 0, 99, 172]
theorem kRcX1_yearUnits_eq : cX1_yearUnits.data.toList.map UInt8.toNat = kCcX1_yearUnits_0 := by decide +kernel
theorem dX1_yearUnits_0 : decode cX1_yearUnits 0 = .ok (.iload_n 1, 1) := dz_27 (kin0 (p := 0) kRcX1_yearUnits_eq rfl)
theorem dX1_yearUnits_1 : decode cX1_yearUnits 1 = .ok (.invokestatic 40, 3) := dz_184 (kin0 (p := 1) kRcX1_yearUnits_eq rfl) (kin0 (p := 2) kRcX1_yearUnits_eq rfl) (kin0 (p := 3) kRcX1_yearUnits_eq rfl) rfl
theorem dX1_yearUnits_4 : decode cX1_yearUnits 4 = .ok (.iload_n 2, 1) := dz_28 (kin0 (p := 4) kRcX1_yearUnits_eq rfl)
theorem dX1_yearUnits_5 : decode cX1_yearUnits 5 = .ok (.iconst 1, 1) := dz_4 (kin0 (p := 5) kRcX1_yearUnits_eq rfl)
theorem dX1_yearUnits_6 : decode cX1_yearUnits 6 = .ok (.iconst 4, 1) := dz_7 (kin0 (p := 6) kRcX1_yearUnits_eq rfl)
theorem dX1_yearUnits_7 : decode cX1_yearUnits 7 = .ok (.invokestatic 71, 3) := dz_184 (kin0 (p := 7) kRcX1_yearUnits_eq rfl) (kin0 (p := 8) kRcX1_yearUnits_eq rfl) (kin0 (p := 9) kRcX1_yearUnits_eq rfl) rfl
theorem dX1_yearUnits_10 : decode cX1_yearUnits 10 = .ok (.aload_n 0, 1) := dz_42 (kin0 (p := 10) kRcX1_yearUnits_eq rfl)
theorem dX1_yearUnits_11 : decode cX1_yearUnits 11 = .ok (.iload_n 1, 1) := dz_27 (kin0 (p := 11) kRcX1_yearUnits_eq rfl)
theorem dX1_yearUnits_12 : decode cX1_yearUnits 12 = .ok (.iload_n 3, 1) := dz_29 (kin0 (p := 12) kRcX1_yearUnits_eq rfl)
theorem dX1_yearUnits_13 : decode cX1_yearUnits 13 = .ok (.iload_n 2, 1) := dz_28 (kin0 (p := 13) kRcX1_yearUnits_eq rfl)
theorem dX1_yearUnits_14 : decode cX1_yearUnits 14 = .ok (.invokestatic 68, 3) := dz_184 (kin0 (p := 14) kRcX1_yearUnits_eq rfl) (kin0 (p := 15) kRcX1_yearUnits_eq rfl) (kin0 (p := 16) kRcX1_yearUnits_eq rfl) rfl
theorem dX1_yearUnits_17 : decode cX1_yearUnits 17 = .ok (.ldc2_w 102, 3) := dz_20 (kin0 (p := 17) kRcX1_yearUnits_eq rfl) (kin0 (p := 18) kRcX1_yearUnits_eq rfl) (kin0 (p := 19) kRcX1_yearUnits_eq rfl) rfl
theorem dX1_yearUnits_20 : decode cX1_yearUnits 20 = .ok (.ldiv, 1) := dz_109 (kin0 (p := 20) kRcX1_yearUnits_eq rfl)
theorem dX1_yearUnits_21 : decode cX1_yearUnits 21 = .ok (.iload 4, 2) := dz_21 (kin0 (p := 21) kRcX1_yearUnits_eq rfl) (kin0 (p := 22) kRcX1_yearUnits_eq rfl)
theorem dX1_yearUnits_23 : decode cX1_yearUnits 23 = .ok (.invokevirtual 99, 3) := dz_182 (kin0 (p := 23) kRcX1_yearUnits_eq rfl) (kin0 (p := 24) kRcX1_yearUnits_eq rfl) (kin0 (p := 25) kRcX1_yearUnits_eq rfl) rfl
theorem dX1_yearUnits_26 : decode cX1_yearUnits 26 = .ok (.ireturn, 1) := dz_172 (kin0 (p := 26) kRcX1_yearUnits_eq rfl)
def kCcX1_yearWith_0 : List Nat := [27, 184, 0, 40, 28, 3, 5, 184, 0, 71, 28, 29, 184, 0, 84, 42, 27, 42, 180, 0, 13, 27, 46, 28, 29, 184, 0, 88, 133, 182, 0, 96]
def kCcX1_yearWith_1 : List Nat := [172]
def kRcX1_yearWith_2 : List Nat := []
def kRcX1_yearWith_1 : List Nat := kCcX1_yearWith_1 ++ kRcX1_yearWith_2
def kRcX1_yearWith_0 : List Nat := kCcX1_yearWith_0 ++ kRcX1_yearWith_1
theorem kRcX1_yearWith_eq : cX1_yearWith.data.toList.map UInt8.toNat = kRcX1_yearWith_0 := by decide +kernel
theorem katcX1_yearWith_0 (i : Nat) : (cX1_yearWith.data.toList.map UInt8.toNat)[0 + i]? = kRcX1_yearWith_0[i]? := by rw [kRcX1_yearWith_eq, Nat.zero_add]
theorem katcX1_yearWith_1 : ∀ i : Nat, (cX1_yearWith.data.toList.map UInt8.toNat)[32 + i]? = kRcX1_yearWith_1[i]? := kstep katcX1_yearWith_0 (C := kCcX1_yearWith_0) rfl rfl
theorem kBcX1_yearWith_0 {b : Nat} (p : Nat) (hp : Nat.ble 0 p = true) (h : kCcX1_yearWith_0[p - 0]? = some b) : kb cX1_yearWith p b := kin katcX1_yearWith_0 rfl hp h
theorem kBcX1_yearWith_1 {b : Nat} (p : Nat) (hp : Nat.ble 32 p = true) (h : kCcX1_yearWith_1[p - 32]? = some b) : kb cX1_yearWith p b := kin katcX1_yearWith_1 rfl hp h
theorem dX1_yearWith_0 : decode cX1_yearWith 0 = .ok (.iload_n 1, 1) := dz_27 (kBcX1_yearWith_0 0 rfl rfl)
theorem dX1_yearWith_1 : decode cX1_yearWith 1 = .ok (.invokestatic 40, 3) := dz_184 (kBcX1_yearWith_0 1 rfl rfl) (kBcX1_yearWith_0 2 rfl rfl) (kBcX1_yearWith_0 3 rfl rfl) rfl
theorem dX1_yearWith_4 : decode cX1_yearWith 4 = .ok (.iload_n 2, 1) := dz_28 (kBcX1_yearWith_0 4 rfl rfl)
theorem dX1_yearWith_5 : decode cX1_yearWith 5 = .ok (.iconst 0, 1) := dz_3 (kBcX1_yearWith_0 5 rfl rfl)
theorem dX1_yearWith_6 : decode cX1_yearWith 6 = .ok (.iconst 2, 1) := dz_5 (kBcX1_yearWith_0 6 rfl rfl)
theorem dX1_yearWith_7 : decode cX1_yearWith 7 = .ok (.invokestatic 71, 3) := dz_184 (kBcX1_yearWith_0 7 rfl rfl) (kBcX1_yearWith_0 8 rfl rfl) (kBcX1_yearWith_0 9 rfl rfl) rfl
theorem dX1_yearWith_10 : decode cX1_yearWith 10 = .ok (.iload_n 2, 1) := dz_28 (kBcX1_yearWith_0 10 rfl rfl)
theorem dX1_yearWith_11 : decode cX1_yearWith 11 = .ok (.iload_n 3, 1) := dz_29 (kBcX1_yearWith_0 11 rfl rfl)
theorem dX1_yearWith_12 : decode cX1_yearWith 12 = .ok (.invokestatic 84, 3) := dz_184 (kBcX1_yearWith_0 12 rfl rfl) (kBcX1_yearWith_0 13 rfl rfl) (kBcX1_yearWith_0 14 rfl rfl) rfl
theorem dX1_yearWith_15 : decode cX1_yearWith 15 = .ok (.aload_n 0, 1) := dz_42 (kBcX1_yearWith_0 15 rfl rfl)
theorem dX1_yearWith_16 : decode cX1_yearWith 16 = .ok (.iload_n 1, 1) := dz_27 (kBcX1_yearWith_0 16 rfl rfl)
theorem dX1_yearWith_17 : decode cX1_yearWith 17 = .ok (.aload_n 0, 1) := dz_42 (kBcX1_yearWith_0 17 rfl rfl)
theorem dX1_yearWith_18 : decode cX1_yearWith 18 = .ok (.getfield 13, 3) := dz_180 (kBcX1_yearWith_0 18 rfl rfl) (kBcX1_yearWith_0 19 rfl rfl) (kBcX1_yearWith_0 20 rfl rfl) rfl
theorem dX1_yearWith_21 : decode cX1_yearWith 21 = .ok (.iload_n 1, 1) := dz_27 (kBcX1_yearWith_0 21 rfl rfl)
theorem dX1_yearWith_22 : decode cX1_yearWith 22 = .ok (.iaload, 1) := dz_46 (kBcX1_yearWith_0 22 rfl rfl)
theorem dX1_yearWith_23 : decode cX1_yearWith 23 = .ok (.iload_n 2, 1) := dz_28 (kBcX1_yearWith_0 23 rfl rfl)
theorem dX1_yearWith_24 : decode cX1_yearWith 24 = .ok (.iload_n 3, 1) := dz_29 (kBcX1_yearWith_0 24 rfl rfl)
theorem dX1_yearWith_25 : decode cX1_yearWith 25 = .ok (.invokestatic 88, 3) := dz_184 (kBcX1_yearWith_0 25 rfl rfl) (kBcX1_yearWith_0 26 rfl rfl) (kBcX1_yearWith_0 27 rfl rfl) rfl
theorem dX1_yearWith_28 : decode cX1_yearWith 28 = .ok (.i2l, 1) := dz_133 (kBcX1_yearWith_0 28 rfl rfl)
theorem dX1_yearWith_29 : decode cX1_yearWith 29 = .ok (.invokevirtual 96, 3) := dz_182 (kBcX1_yearWith_0 29 rfl rfl) (kBcX1_yearWith_0 30 rfl rfl) (kBcX1_yearWith_0 31 rfl rfl) rfl
theorem dX1_yearWith_32 : decode cX1_yearWith 32 = .ok (.ireturn, 1) := dz_172 (kBcX1_yearWith_1 32 rfl rfl)
def kCcX1_yearOf_0 : List Nat := [27, 184, 0, 40, 29, 184, 0, 40, 42, 27, 28, 153, 0, 12, 42, 180, 0, 23, 29, 47, 167, 0, 9, 42, 180, 0, 9, 29, 47, 184, 0, 81]
def kCcX1_yearOf_1 : List Nat := [133, 182, 0, 96, 172]
def kRcX1_yearOf_2 : List Nat := []
def kRcX1_yearOf_1 : List Nat := kCcX1_yearOf_1 ++ kRcX1_yearOf_2
def kRcX1_yearOf_0 : List Nat := kCcX1_yearOf_0 ++ kRcX1_yearOf_1
theorem kRcX1_yearOf_eq : cX1_yearOf.data.toList.map UInt8.toNat = kRcX1_yearOf_0 := by decide +kernel
theorem katcX1_yearOf_0 (i : Nat) : (cX1_yearOf.data.toList.map UInt8.toNat)[0 + i]? = kRcX1_yearOf_0[i]? := by rw [kRcX1_yearOf_eq, Nat.zero_add]
theorem katcX1_yearOf_1 : ∀ i : Nat, (cX1_yearOf.data.toList.map UInt8.toNat)[32 + i]? = kRcX1_yearOf_1[i]? := kstep katcX1_yearOf_0 (C := kCcX1_yearOf_0) rfl rfl
theorem kBcX1_yearOf_0 {b : Nat} (p : Nat) (hp : Nat.ble 0 p = true) (h : kCcX1_yearOf_0[p - 0]? = some b) : kb cX1_yearOf p b := kin katcX1_yearOf_0 rfl hp h
theorem kBcX1_yearOf_1 {b : Nat} (p : Nat) (hp : Nat.ble 32 p = true) (h : kCcX1_yearOf_1[p - 32]? = some b) : kb cX1_yearOf p b := kin katcX1_yearOf_1 rfl hp h
theorem dX1_yearOf_0 : decode cX1_yearOf 0 = .ok (.iload_n 1, 1) := dz_27 (kBcX1_yearOf_0 0 rfl rfl)
theorem dX1_yearOf_1 : decode cX1_yearOf 1 = .ok (.invokestatic 40, 3) := dz_184 (kBcX1_yearOf_0 1 rfl rfl) (kBcX1_yearOf_0 2 rfl rfl) (kBcX1_yearOf_0 3 rfl rfl) rfl
theorem dX1_yearOf_4 : decode cX1_yearOf 4 = .ok (.iload_n 3, 1) := dz_29 (kBcX1_yearOf_0 4 rfl rfl)
theorem dX1_yearOf_5 : decode cX1_yearOf 5 = .ok (.invokestatic 40, 3) := dz_184 (kBcX1_yearOf_0 5 rfl rfl) (kBcX1_yearOf_0 6 rfl rfl) (kBcX1_yearOf_0 7 rfl rfl) rfl
theorem dX1_yearOf_8 : decode cX1_yearOf 8 = .ok (.aload_n 0, 1) := dz_42 (kBcX1_yearOf_0 8 rfl rfl)
theorem dX1_yearOf_9 : decode cX1_yearOf 9 = .ok (.iload_n 1, 1) := dz_27 (kBcX1_yearOf_0 9 rfl rfl)
theorem dX1_yearOf_10 : decode cX1_yearOf 10 = .ok (.iload_n 2, 1) := dz_28 (kBcX1_yearOf_0 10 rfl rfl)
theorem dX1_yearOf_11 : decode cX1_yearOf 11 = .ok (.ifCond .eq 12, 3) := dz_153 (kBcX1_yearOf_0 11 rfl rfl) (kBcX1_yearOf_0 12 rfl rfl) (kBcX1_yearOf_0 13 rfl rfl) rfl
theorem dX1_yearOf_14 : decode cX1_yearOf 14 = .ok (.aload_n 0, 1) := dz_42 (kBcX1_yearOf_0 14 rfl rfl)
theorem dX1_yearOf_15 : decode cX1_yearOf 15 = .ok (.getfield 23, 3) := dz_180 (kBcX1_yearOf_0 15 rfl rfl) (kBcX1_yearOf_0 16 rfl rfl) (kBcX1_yearOf_0 17 rfl rfl) rfl
theorem dX1_yearOf_18 : decode cX1_yearOf 18 = .ok (.iload_n 3, 1) := dz_29 (kBcX1_yearOf_0 18 rfl rfl)
theorem dX1_yearOf_19 : decode cX1_yearOf 19 = .ok (.laload, 1) := dz_47 (kBcX1_yearOf_0 19 rfl rfl)
theorem dX1_yearOf_20 : decode cX1_yearOf 20 = .ok (.goto 9, 3) := dz_167 (kBcX1_yearOf_0 20 rfl rfl) (kBcX1_yearOf_0 21 rfl rfl) (kBcX1_yearOf_0 22 rfl rfl) rfl
theorem dX1_yearOf_23 : decode cX1_yearOf 23 = .ok (.aload_n 0, 1) := dz_42 (kBcX1_yearOf_0 23 rfl rfl)
theorem dX1_yearOf_24 : decode cX1_yearOf 24 = .ok (.getfield 9, 3) := dz_180 (kBcX1_yearOf_0 24 rfl rfl) (kBcX1_yearOf_0 25 rfl rfl) (kBcX1_yearOf_0 26 rfl rfl) rfl
theorem dX1_yearOf_27 : decode cX1_yearOf 27 = .ok (.iload_n 3, 1) := dz_29 (kBcX1_yearOf_0 27 rfl rfl)
theorem dX1_yearOf_28 : decode cX1_yearOf 28 = .ok (.laload, 1) := dz_47 (kBcX1_yearOf_0 28 rfl rfl)
theorem dX1_yearOf_29 : decode cX1_yearOf 29 = .ok (.invokestatic 81, 3) := dz_184 (kBcX1_yearOf_0 29 rfl rfl) (kBcX1_yearOf_0 30 rfl rfl) (kBcX1_yearOf_0 31 rfl rfl) rfl
theorem dX1_yearOf_32 : decode cX1_yearOf 32 = .ok (.i2l, 1) := dz_133 (kBcX1_yearOf_1 32 rfl rfl)
theorem dX1_yearOf_33 : decode cX1_yearOf 33 = .ok (.invokevirtual 96, 3) := dz_182 (kBcX1_yearOf_1 33 rfl rfl) (kBcX1_yearOf_1 34 rfl rfl) (kBcX1_yearOf_1 35 rfl rfl) rfl
theorem dX1_yearOf_36 : decode cX1_yearOf 36 = .ok (.ireturn, 1) := dz_172 (kBcX1_yearOf_1 36 rfl rfl)
def kCcX1_yearLike_0 : List Nat := [27, 184, 0, 40, 28, 184, 0, 40, 42, 180, 0, 13, 27, 46, 42, 180, 0, 13, 28, 46, 160, 0, 7, 4, 167, 0, 4, 3, 184, 0, 92, 62]
def kCcX1_yearLike_1 : List Nat := [42, 180, 0, 13, 27, 42, 180, 0, 13, 28, 46, 79, 29, 172]
def kRcX1_yearLike_2 : List Nat := []
def kRcX1_yearLike_1 : List Nat := kCcX1_yearLike_1 ++ kRcX1_yearLike_2
def kRcX1_yearLike_0 : List Nat := kCcX1_yearLike_0 ++ kRcX1_yearLike_1
theorem kRcX1_yearLike_eq : cX1_yearLike.data.toList.map UInt8.toNat = kRcX1_yearLike_0 := by decide +kernel
theorem katcX1_yearLike_0 (i : Nat) : (cX1_yearLike.data.toList.map UInt8.toNat)[0 + i]? = kRcX1_yearLike_0[i]? := by rw [kRcX1_yearLike_eq, Nat.zero_add]
theorem katcX1_yearLike_1 : ∀ i : Nat, (cX1_yearLike.data.toList.map UInt8.toNat)[32 + i]? = kRcX1_yearLike_1[i]? := kstep katcX1_yearLike_0 (C := kCcX1_yearLike_0) rfl rfl
theorem kBcX1_yearLike_0 {b : Nat} (p : Nat) (hp : Nat.ble 0 p = true) (h : kCcX1_yearLike_0[p - 0]? = some b) : kb cX1_yearLike p b := kin katcX1_yearLike_0 rfl hp h
theorem kBcX1_yearLike_1 {b : Nat} (p : Nat) (hp : Nat.ble 32 p = true) (h : kCcX1_yearLike_1[p - 32]? = some b) : kb cX1_yearLike p b := kin katcX1_yearLike_1 rfl hp h
theorem dX1_yearLike_0 : decode cX1_yearLike 0 = .ok (.iload_n 1, 1) := dz_27 (kBcX1_yearLike_0 0 rfl rfl)
theorem dX1_yearLike_1 : decode cX1_yearLike 1 = .ok (.invokestatic 40, 3) := dz_184 (kBcX1_yearLike_0 1 rfl rfl) (kBcX1_yearLike_0 2 rfl rfl) (kBcX1_yearLike_0 3 rfl rfl) rfl
theorem dX1_yearLike_4 : decode cX1_yearLike 4 = .ok (.iload_n 2, 1) := dz_28 (kBcX1_yearLike_0 4 rfl rfl)
theorem dX1_yearLike_5 : decode cX1_yearLike 5 = .ok (.invokestatic 40, 3) := dz_184 (kBcX1_yearLike_0 5 rfl rfl) (kBcX1_yearLike_0 6 rfl rfl) (kBcX1_yearLike_0 7 rfl rfl) rfl
theorem dX1_yearLike_8 : decode cX1_yearLike 8 = .ok (.aload_n 0, 1) := dz_42 (kBcX1_yearLike_0 8 rfl rfl)
theorem dX1_yearLike_9 : decode cX1_yearLike 9 = .ok (.getfield 13, 3) := dz_180 (kBcX1_yearLike_0 9 rfl rfl) (kBcX1_yearLike_0 10 rfl rfl) (kBcX1_yearLike_0 11 rfl rfl) rfl
theorem dX1_yearLike_12 : decode cX1_yearLike 12 = .ok (.iload_n 1, 1) := dz_27 (kBcX1_yearLike_0 12 rfl rfl)
theorem dX1_yearLike_13 : decode cX1_yearLike 13 = .ok (.iaload, 1) := dz_46 (kBcX1_yearLike_0 13 rfl rfl)
theorem dX1_yearLike_14 : decode cX1_yearLike 14 = .ok (.aload_n 0, 1) := dz_42 (kBcX1_yearLike_0 14 rfl rfl)
theorem dX1_yearLike_15 : decode cX1_yearLike 15 = .ok (.getfield 13, 3) := dz_180 (kBcX1_yearLike_0 15 rfl rfl) (kBcX1_yearLike_0 16 rfl rfl) (kBcX1_yearLike_0 17 rfl rfl) rfl
theorem dX1_yearLike_18 : decode cX1_yearLike 18 = .ok (.iload_n 2, 1) := dz_28 (kBcX1_yearLike_0 18 rfl rfl)
theorem dX1_yearLike_19 : decode cX1_yearLike 19 = .ok (.iaload, 1) := dz_46 (kBcX1_yearLike_0 19 rfl rfl)
theorem dX1_yearLike_20 : decode cX1_yearLike 20 = .ok (.if_icmp .ne 7, 3) := dz_160 (kBcX1_yearLike_0 20 rfl rfl) (kBcX1_yearLike_0 21 rfl rfl) (kBcX1_yearLike_0 22 rfl rfl) rfl
theorem dX1_yearLike_23 : decode cX1_yearLike 23 = .ok (.iconst 1, 1) := dz_4 (kBcX1_yearLike_0 23 rfl rfl)
theorem dX1_yearLike_24 : decode cX1_yearLike 24 = .ok (.goto 4, 3) := dz_167 (kBcX1_yearLike_0 24 rfl rfl) (kBcX1_yearLike_0 25 rfl rfl) (kBcX1_yearLike_0 26 rfl rfl) rfl
theorem dX1_yearLike_27 : decode cX1_yearLike 27 = .ok (.iconst 0, 1) := dz_3 (kBcX1_yearLike_0 27 rfl rfl)
theorem dX1_yearLike_28 : decode cX1_yearLike 28 = .ok (.invokestatic 92, 3) := dz_184 (kBcX1_yearLike_0 28 rfl rfl) (kBcX1_yearLike_0 29 rfl rfl) (kBcX1_yearLike_0 30 rfl rfl) rfl
theorem dX1_yearLike_31 : decode cX1_yearLike 31 = .ok (.istore_n 3, 1) := dz_62 (kBcX1_yearLike_0 31 rfl rfl)
theorem dX1_yearLike_32 : decode cX1_yearLike 32 = .ok (.aload_n 0, 1) := dz_42 (kBcX1_yearLike_1 32 rfl rfl)
theorem dX1_yearLike_33 : decode cX1_yearLike 33 = .ok (.getfield 13, 3) := dz_180 (kBcX1_yearLike_1 33 rfl rfl) (kBcX1_yearLike_1 34 rfl rfl) (kBcX1_yearLike_1 35 rfl rfl) rfl
theorem dX1_yearLike_36 : decode cX1_yearLike 36 = .ok (.iload_n 1, 1) := dz_27 (kBcX1_yearLike_1 36 rfl rfl)
theorem dX1_yearLike_37 : decode cX1_yearLike 37 = .ok (.aload_n 0, 1) := dz_42 (kBcX1_yearLike_1 37 rfl rfl)
theorem dX1_yearLike_38 : decode cX1_yearLike 38 = .ok (.getfield 13, 3) := dz_180 (kBcX1_yearLike_1 38 rfl rfl) (kBcX1_yearLike_1 39 rfl rfl) (kBcX1_yearLike_1 40 rfl rfl) rfl
theorem dX1_yearLike_41 : decode cX1_yearLike 41 = .ok (.iload_n 2, 1) := dz_28 (kBcX1_yearLike_1 41 rfl rfl)
theorem dX1_yearLike_42 : decode cX1_yearLike 42 = .ok (.iaload, 1) := dz_46 (kBcX1_yearLike_1 42 rfl rfl)
theorem dX1_yearLike_43 : decode cX1_yearLike 43 = .ok (.iastore, 1) := dz_79 (kBcX1_yearLike_1 43 rfl rfl)
theorem dX1_yearLike_44 : decode cX1_yearLike 44 = .ok (.iload_n 3, 1) := dz_29 (kBcX1_yearLike_1 44 rfl rfl)
theorem dX1_yearLike_45 : decode cX1_yearLike 45 = .ok (.ireturn, 1) := dz_172 (kBcX1_yearLike_1 45 rfl rfl)
def kCcX1_feast_0 : List Nat := [27, 184, 0, 40, 28, 184, 0, 47, 29, 184, 0, 104, 42, 27, 28, 29, 182, 0, 107, 154, 0, 6, 16, 247, 172, 28, 29, 184, 0, 111, 184, 0]
def kCcX1_feast_1 : List Nat := [92, 172]
def kRcX1_feast_2 : List Nat := []
def kRcX1_feast_1 : List Nat := kCcX1_feast_1 ++ kRcX1_feast_2
def kRcX1_feast_0 : List Nat := kCcX1_feast_0 ++ kRcX1_feast_1
theorem kRcX1_feast_eq : cX1_feast.data.toList.map UInt8.toNat = kRcX1_feast_0 := by decide +kernel
theorem katcX1_feast_0 (i : Nat) : (cX1_feast.data.toList.map UInt8.toNat)[0 + i]? = kRcX1_feast_0[i]? := by rw [kRcX1_feast_eq, Nat.zero_add]
theorem katcX1_feast_1 : ∀ i : Nat, (cX1_feast.data.toList.map UInt8.toNat)[32 + i]? = kRcX1_feast_1[i]? := kstep katcX1_feast_0 (C := kCcX1_feast_0) rfl rfl
theorem kBcX1_feast_0 {b : Nat} (p : Nat) (hp : Nat.ble 0 p = true) (h : kCcX1_feast_0[p - 0]? = some b) : kb cX1_feast p b := kin katcX1_feast_0 rfl hp h
theorem kBcX1_feast_1 {b : Nat} (p : Nat) (hp : Nat.ble 32 p = true) (h : kCcX1_feast_1[p - 32]? = some b) : kb cX1_feast p b := kin katcX1_feast_1 rfl hp h
theorem dX1_feast_0 : decode cX1_feast 0 = .ok (.iload_n 1, 1) := dz_27 (kBcX1_feast_0 0 rfl rfl)
theorem dX1_feast_1 : decode cX1_feast 1 = .ok (.invokestatic 40, 3) := dz_184 (kBcX1_feast_0 1 rfl rfl) (kBcX1_feast_0 2 rfl rfl) (kBcX1_feast_0 3 rfl rfl) rfl
theorem dX1_feast_4 : decode cX1_feast 4 = .ok (.iload_n 2, 1) := dz_28 (kBcX1_feast_0 4 rfl rfl)
theorem dX1_feast_5 : decode cX1_feast 5 = .ok (.invokestatic 47, 3) := dz_184 (kBcX1_feast_0 5 rfl rfl) (kBcX1_feast_0 6 rfl rfl) (kBcX1_feast_0 7 rfl rfl) rfl
theorem dX1_feast_8 : decode cX1_feast 8 = .ok (.iload_n 3, 1) := dz_29 (kBcX1_feast_0 8 rfl rfl)
theorem dX1_feast_9 : decode cX1_feast 9 = .ok (.invokestatic 104, 3) := dz_184 (kBcX1_feast_0 9 rfl rfl) (kBcX1_feast_0 10 rfl rfl) (kBcX1_feast_0 11 rfl rfl) rfl
theorem dX1_feast_12 : decode cX1_feast 12 = .ok (.aload_n 0, 1) := dz_42 (kBcX1_feast_0 12 rfl rfl)
theorem dX1_feast_13 : decode cX1_feast 13 = .ok (.iload_n 1, 1) := dz_27 (kBcX1_feast_0 13 rfl rfl)
theorem dX1_feast_14 : decode cX1_feast 14 = .ok (.iload_n 2, 1) := dz_28 (kBcX1_feast_0 14 rfl rfl)
theorem dX1_feast_15 : decode cX1_feast 15 = .ok (.iload_n 3, 1) := dz_29 (kBcX1_feast_0 15 rfl rfl)
theorem dX1_feast_16 : decode cX1_feast 16 = .ok (.invokevirtual 107, 3) := dz_182 (kBcX1_feast_0 16 rfl rfl) (kBcX1_feast_0 17 rfl rfl) (kBcX1_feast_0 18 rfl rfl) rfl
theorem dX1_feast_19 : decode cX1_feast 19 = .ok (.ifCond .ne 6, 3) := dz_154 (kBcX1_feast_0 19 rfl rfl) (kBcX1_feast_0 20 rfl rfl) (kBcX1_feast_0 21 rfl rfl) rfl
theorem dX1_feast_22 : decode cX1_feast 22 = .ok (.bipush (-9), 2) := dz_16 (kBcX1_feast_0 22 rfl rfl) (kBcX1_feast_0 23 rfl rfl) rfl
theorem dX1_feast_24 : decode cX1_feast 24 = .ok (.ireturn, 1) := dz_172 (kBcX1_feast_0 24 rfl rfl)
theorem dX1_feast_25 : decode cX1_feast 25 = .ok (.iload_n 2, 1) := dz_28 (kBcX1_feast_0 25 rfl rfl)
theorem dX1_feast_26 : decode cX1_feast 26 = .ok (.iload_n 3, 1) := dz_29 (kBcX1_feast_0 26 rfl rfl)
theorem dX1_feast_27 : decode cX1_feast 27 = .ok (.invokestatic 111, 3) := dz_184 (kBcX1_feast_0 27 rfl rfl) (kBcX1_feast_0 28 rfl rfl) (kBcX1_feast_0 29 rfl rfl) rfl
theorem dX1_feast_30 : decode cX1_feast 30 = .ok (.invokestatic 92, 3) := dz_184 (kBcX1_feast_0 30 rfl rfl) (kBcX1_feast_0 31 rfl rfl) (kBcX1_feast_1 32 rfl rfl) rfl
theorem dX1_feast_33 : decode cX1_feast 33 = .ok (.ireturn, 1) := dz_172 (kBcX1_feast_1 33 rfl rfl)
def kCcX1_feastRound_0 : List Nat := [27, 184, 0, 40, 29, 184, 0, 104, 28, 184, 0, 60, 54, 4, 42, 27, 21, 4, 29, 182, 0, 107, 153, 0, 8, 21, 4, 167, 0, 5, 16, 247]
def kCcX1_feastRound_1 : List Nat := [172]
def kRcX1_feastRound_2 : List Nat := []
def kRcX1_feastRound_1 : List Nat := kCcX1_feastRound_1 ++ kRcX1_feastRound_2
def kRcX1_feastRound_0 : List Nat := kCcX1_feastRound_0 ++ kRcX1_feastRound_1
theorem kRcX1_feastRound_eq : cX1_feastRound.data.toList.map UInt8.toNat = kRcX1_feastRound_0 := by decide +kernel
theorem katcX1_feastRound_0 (i : Nat) : (cX1_feastRound.data.toList.map UInt8.toNat)[0 + i]? = kRcX1_feastRound_0[i]? := by rw [kRcX1_feastRound_eq, Nat.zero_add]
theorem katcX1_feastRound_1 : ∀ i : Nat, (cX1_feastRound.data.toList.map UInt8.toNat)[32 + i]? = kRcX1_feastRound_1[i]? := kstep katcX1_feastRound_0 (C := kCcX1_feastRound_0) rfl rfl
theorem kBcX1_feastRound_0 {b : Nat} (p : Nat) (hp : Nat.ble 0 p = true) (h : kCcX1_feastRound_0[p - 0]? = some b) : kb cX1_feastRound p b := kin katcX1_feastRound_0 rfl hp h
theorem kBcX1_feastRound_1 {b : Nat} (p : Nat) (hp : Nat.ble 32 p = true) (h : kCcX1_feastRound_1[p - 32]? = some b) : kb cX1_feastRound p b := kin katcX1_feastRound_1 rfl hp h
theorem dX1_feastRound_0 : decode cX1_feastRound 0 = .ok (.iload_n 1, 1) := dz_27 (kBcX1_feastRound_0 0 rfl rfl)
theorem dX1_feastRound_1 : decode cX1_feastRound 1 = .ok (.invokestatic 40, 3) := dz_184 (kBcX1_feastRound_0 1 rfl rfl) (kBcX1_feastRound_0 2 rfl rfl) (kBcX1_feastRound_0 3 rfl rfl) rfl
theorem dX1_feastRound_4 : decode cX1_feastRound 4 = .ok (.iload_n 3, 1) := dz_29 (kBcX1_feastRound_0 4 rfl rfl)
theorem dX1_feastRound_5 : decode cX1_feastRound 5 = .ok (.invokestatic 104, 3) := dz_184 (kBcX1_feastRound_0 5 rfl rfl) (kBcX1_feastRound_0 6 rfl rfl) (kBcX1_feastRound_0 7 rfl rfl) rfl
theorem dX1_feastRound_8 : decode cX1_feastRound 8 = .ok (.iload_n 2, 1) := dz_28 (kBcX1_feastRound_0 8 rfl rfl)
theorem dX1_feastRound_9 : decode cX1_feastRound 9 = .ok (.invokestatic 60, 3) := dz_184 (kBcX1_feastRound_0 9 rfl rfl) (kBcX1_feastRound_0 10 rfl rfl) (kBcX1_feastRound_0 11 rfl rfl) rfl
theorem dX1_feastRound_12 : decode cX1_feastRound 12 = .ok (.istore 4, 2) := dz_54 (kBcX1_feastRound_0 12 rfl rfl) (kBcX1_feastRound_0 13 rfl rfl)
theorem dX1_feastRound_14 : decode cX1_feastRound 14 = .ok (.aload_n 0, 1) := dz_42 (kBcX1_feastRound_0 14 rfl rfl)
theorem dX1_feastRound_15 : decode cX1_feastRound 15 = .ok (.iload_n 1, 1) := dz_27 (kBcX1_feastRound_0 15 rfl rfl)
theorem dX1_feastRound_16 : decode cX1_feastRound 16 = .ok (.iload 4, 2) := dz_21 (kBcX1_feastRound_0 16 rfl rfl) (kBcX1_feastRound_0 17 rfl rfl)
theorem dX1_feastRound_18 : decode cX1_feastRound 18 = .ok (.iload_n 3, 1) := dz_29 (kBcX1_feastRound_0 18 rfl rfl)
theorem dX1_feastRound_19 : decode cX1_feastRound 19 = .ok (.invokevirtual 107, 3) := dz_182 (kBcX1_feastRound_0 19 rfl rfl) (kBcX1_feastRound_0 20 rfl rfl) (kBcX1_feastRound_0 21 rfl rfl) rfl
theorem dX1_feastRound_22 : decode cX1_feastRound 22 = .ok (.ifCond .eq 8, 3) := dz_153 (kBcX1_feastRound_0 22 rfl rfl) (kBcX1_feastRound_0 23 rfl rfl) (kBcX1_feastRound_0 24 rfl rfl) rfl
theorem dX1_feastRound_25 : decode cX1_feastRound 25 = .ok (.iload 4, 2) := dz_21 (kBcX1_feastRound_0 25 rfl rfl) (kBcX1_feastRound_0 26 rfl rfl)
theorem dX1_feastRound_27 : decode cX1_feastRound 27 = .ok (.goto 5, 3) := dz_167 (kBcX1_feastRound_0 27 rfl rfl) (kBcX1_feastRound_0 28 rfl rfl) (kBcX1_feastRound_0 29 rfl rfl) rfl
theorem dX1_feastRound_30 : decode cX1_feastRound 30 = .ok (.bipush (-9), 2) := dz_16 (kBcX1_feastRound_0 30 rfl rfl) (kBcX1_feastRound_0 31 rfl rfl) rfl
theorem dX1_feastRound_32 : decode cX1_feastRound 32 = .ok (.ireturn, 1) := dz_172 (kBcX1_feastRound_1 32 rfl rfl)
def kCcX1_feastMonth_0 : List Nat := [27, 184, 0, 40, 28, 184, 0, 47, 42, 180, 0, 20, 27, 46, 28, 4, 184, 0, 115, 184, 0, 119, 54, 4, 42, 27, 28, 21, 4, 182, 0, 107]
def kCcX1_feastMonth_1 : List Nat := [87, 21, 4, 172]
def kRcX1_feastMonth_2 : List Nat := []
def kRcX1_feastMonth_1 : List Nat := kCcX1_feastMonth_1 ++ kRcX1_feastMonth_2
def kRcX1_feastMonth_0 : List Nat := kCcX1_feastMonth_0 ++ kRcX1_feastMonth_1
theorem kRcX1_feastMonth_eq : cX1_feastMonth.data.toList.map UInt8.toNat = kRcX1_feastMonth_0 := by decide +kernel
theorem katcX1_feastMonth_0 (i : Nat) : (cX1_feastMonth.data.toList.map UInt8.toNat)[0 + i]? = kRcX1_feastMonth_0[i]? := by rw [kRcX1_feastMonth_eq, Nat.zero_add]
theorem katcX1_feastMonth_1 : ∀ i : Nat, (cX1_feastMonth.data.toList.map UInt8.toNat)[32 + i]? = kRcX1_feastMonth_1[i]? := kstep katcX1_feastMonth_0 (C := kCcX1_feastMonth_0) rfl rfl
theorem kBcX1_feastMonth_0 {b : Nat} (p : Nat) (hp : Nat.ble 0 p = true) (h : kCcX1_feastMonth_0[p - 0]? = some b) : kb cX1_feastMonth p b := kin katcX1_feastMonth_0 rfl hp h
theorem kBcX1_feastMonth_1 {b : Nat} (p : Nat) (hp : Nat.ble 32 p = true) (h : kCcX1_feastMonth_1[p - 32]? = some b) : kb cX1_feastMonth p b := kin katcX1_feastMonth_1 rfl hp h
theorem dX1_feastMonth_0 : decode cX1_feastMonth 0 = .ok (.iload_n 1, 1) := dz_27 (kBcX1_feastMonth_0 0 rfl rfl)
theorem dX1_feastMonth_1 : decode cX1_feastMonth 1 = .ok (.invokestatic 40, 3) := dz_184 (kBcX1_feastMonth_0 1 rfl rfl) (kBcX1_feastMonth_0 2 rfl rfl) (kBcX1_feastMonth_0 3 rfl rfl) rfl
theorem dX1_feastMonth_4 : decode cX1_feastMonth 4 = .ok (.iload_n 2, 1) := dz_28 (kBcX1_feastMonth_0 4 rfl rfl)
theorem dX1_feastMonth_5 : decode cX1_feastMonth 5 = .ok (.invokestatic 47, 3) := dz_184 (kBcX1_feastMonth_0 5 rfl rfl) (kBcX1_feastMonth_0 6 rfl rfl) (kBcX1_feastMonth_0 7 rfl rfl) rfl
theorem dX1_feastMonth_8 : decode cX1_feastMonth 8 = .ok (.aload_n 0, 1) := dz_42 (kBcX1_feastMonth_0 8 rfl rfl)
theorem dX1_feastMonth_9 : decode cX1_feastMonth 9 = .ok (.getfield 20, 3) := dz_180 (kBcX1_feastMonth_0 9 rfl rfl) (kBcX1_feastMonth_0 10 rfl rfl) (kBcX1_feastMonth_0 11 rfl rfl) rfl
theorem dX1_feastMonth_12 : decode cX1_feastMonth 12 = .ok (.iload_n 1, 1) := dz_27 (kBcX1_feastMonth_0 12 rfl rfl)
theorem dX1_feastMonth_13 : decode cX1_feastMonth 13 = .ok (.iaload, 1) := dz_46 (kBcX1_feastMonth_0 13 rfl rfl)
theorem dX1_feastMonth_14 : decode cX1_feastMonth 14 = .ok (.iload_n 2, 1) := dz_28 (kBcX1_feastMonth_0 14 rfl rfl)
theorem dX1_feastMonth_15 : decode cX1_feastMonth 15 = .ok (.iconst 1, 1) := dz_4 (kBcX1_feastMonth_0 15 rfl rfl)
theorem dX1_feastMonth_16 : decode cX1_feastMonth 16 = .ok (.invokestatic 115, 3) := dz_184 (kBcX1_feastMonth_0 16 rfl rfl) (kBcX1_feastMonth_0 17 rfl rfl) (kBcX1_feastMonth_0 18 rfl rfl) rfl
theorem dX1_feastMonth_19 : decode cX1_feastMonth 19 = .ok (.invokestatic 119, 3) := dz_184 (kBcX1_feastMonth_0 19 rfl rfl) (kBcX1_feastMonth_0 20 rfl rfl) (kBcX1_feastMonth_0 21 rfl rfl) rfl
theorem dX1_feastMonth_22 : decode cX1_feastMonth 22 = .ok (.istore 4, 2) := dz_54 (kBcX1_feastMonth_0 22 rfl rfl) (kBcX1_feastMonth_0 23 rfl rfl)
theorem dX1_feastMonth_24 : decode cX1_feastMonth 24 = .ok (.aload_n 0, 1) := dz_42 (kBcX1_feastMonth_0 24 rfl rfl)
theorem dX1_feastMonth_25 : decode cX1_feastMonth 25 = .ok (.iload_n 1, 1) := dz_27 (kBcX1_feastMonth_0 25 rfl rfl)
theorem dX1_feastMonth_26 : decode cX1_feastMonth 26 = .ok (.iload_n 2, 1) := dz_28 (kBcX1_feastMonth_0 26 rfl rfl)
theorem dX1_feastMonth_27 : decode cX1_feastMonth 27 = .ok (.iload 4, 2) := dz_21 (kBcX1_feastMonth_0 27 rfl rfl) (kBcX1_feastMonth_0 28 rfl rfl)
theorem dX1_feastMonth_29 : decode cX1_feastMonth 29 = .ok (.invokevirtual 107, 3) := dz_182 (kBcX1_feastMonth_0 29 rfl rfl) (kBcX1_feastMonth_0 30 rfl rfl) (kBcX1_feastMonth_0 31 rfl rfl) rfl
theorem dX1_feastMonth_32 : decode cX1_feastMonth 32 = .ok (.pop, 1) := dz_87 (kBcX1_feastMonth_1 32 rfl rfl)
theorem dX1_feastMonth_33 : decode cX1_feastMonth 33 = .ok (.iload 4, 2) := dz_21 (kBcX1_feastMonth_1 33 rfl rfl) (kBcX1_feastMonth_1 34 rfl rfl)
theorem dX1_feastMonth_35 : decode cX1_feastMonth 35 = .ok (.ireturn, 1) := dz_172 (kBcX1_feastMonth_1 35 rfl rfl)
def kCcX1_feastDay_0 : List Nat := [27, 184, 0, 40, 28, 184, 0, 104, 42, 180, 0, 20, 27, 46, 54, 4, 42, 27, 42, 180, 0, 17, 27, 46, 28, 182, 0, 107, 153, 0, 8, 21]
def kCcX1_feastDay_1 : List Nat := [4, 167, 0, 5, 16, 247, 172]
def kRcX1_feastDay_2 : List Nat := []
def kRcX1_feastDay_1 : List Nat := kCcX1_feastDay_1 ++ kRcX1_feastDay_2
def kRcX1_feastDay_0 : List Nat := kCcX1_feastDay_0 ++ kRcX1_feastDay_1
theorem kRcX1_feastDay_eq : cX1_feastDay.data.toList.map UInt8.toNat = kRcX1_feastDay_0 := by decide +kernel
theorem katcX1_feastDay_0 (i : Nat) : (cX1_feastDay.data.toList.map UInt8.toNat)[0 + i]? = kRcX1_feastDay_0[i]? := by rw [kRcX1_feastDay_eq, Nat.zero_add]
theorem katcX1_feastDay_1 : ∀ i : Nat, (cX1_feastDay.data.toList.map UInt8.toNat)[32 + i]? = kRcX1_feastDay_1[i]? := kstep katcX1_feastDay_0 (C := kCcX1_feastDay_0) rfl rfl
theorem kBcX1_feastDay_0 {b : Nat} (p : Nat) (hp : Nat.ble 0 p = true) (h : kCcX1_feastDay_0[p - 0]? = some b) : kb cX1_feastDay p b := kin katcX1_feastDay_0 rfl hp h
theorem kBcX1_feastDay_1 {b : Nat} (p : Nat) (hp : Nat.ble 32 p = true) (h : kCcX1_feastDay_1[p - 32]? = some b) : kb cX1_feastDay p b := kin katcX1_feastDay_1 rfl hp h
theorem dX1_feastDay_0 : decode cX1_feastDay 0 = .ok (.iload_n 1, 1) := dz_27 (kBcX1_feastDay_0 0 rfl rfl)
theorem dX1_feastDay_1 : decode cX1_feastDay 1 = .ok (.invokestatic 40, 3) := dz_184 (kBcX1_feastDay_0 1 rfl rfl) (kBcX1_feastDay_0 2 rfl rfl) (kBcX1_feastDay_0 3 rfl rfl) rfl
theorem dX1_feastDay_4 : decode cX1_feastDay 4 = .ok (.iload_n 2, 1) := dz_28 (kBcX1_feastDay_0 4 rfl rfl)
theorem dX1_feastDay_5 : decode cX1_feastDay 5 = .ok (.invokestatic 104, 3) := dz_184 (kBcX1_feastDay_0 5 rfl rfl) (kBcX1_feastDay_0 6 rfl rfl) (kBcX1_feastDay_0 7 rfl rfl) rfl
theorem dX1_feastDay_8 : decode cX1_feastDay 8 = .ok (.aload_n 0, 1) := dz_42 (kBcX1_feastDay_0 8 rfl rfl)
theorem dX1_feastDay_9 : decode cX1_feastDay 9 = .ok (.getfield 20, 3) := dz_180 (kBcX1_feastDay_0 9 rfl rfl) (kBcX1_feastDay_0 10 rfl rfl) (kBcX1_feastDay_0 11 rfl rfl) rfl
theorem dX1_feastDay_12 : decode cX1_feastDay 12 = .ok (.iload_n 1, 1) := dz_27 (kBcX1_feastDay_0 12 rfl rfl)
theorem dX1_feastDay_13 : decode cX1_feastDay 13 = .ok (.iaload, 1) := dz_46 (kBcX1_feastDay_0 13 rfl rfl)
theorem dX1_feastDay_14 : decode cX1_feastDay 14 = .ok (.istore 4, 2) := dz_54 (kBcX1_feastDay_0 14 rfl rfl) (kBcX1_feastDay_0 15 rfl rfl)
theorem dX1_feastDay_16 : decode cX1_feastDay 16 = .ok (.aload_n 0, 1) := dz_42 (kBcX1_feastDay_0 16 rfl rfl)
theorem dX1_feastDay_17 : decode cX1_feastDay 17 = .ok (.iload_n 1, 1) := dz_27 (kBcX1_feastDay_0 17 rfl rfl)
theorem dX1_feastDay_18 : decode cX1_feastDay 18 = .ok (.aload_n 0, 1) := dz_42 (kBcX1_feastDay_0 18 rfl rfl)
theorem dX1_feastDay_19 : decode cX1_feastDay 19 = .ok (.getfield 17, 3) := dz_180 (kBcX1_feastDay_0 19 rfl rfl) (kBcX1_feastDay_0 20 rfl rfl) (kBcX1_feastDay_0 21 rfl rfl) rfl
theorem dX1_feastDay_22 : decode cX1_feastDay 22 = .ok (.iload_n 1, 1) := dz_27 (kBcX1_feastDay_0 22 rfl rfl)
theorem dX1_feastDay_23 : decode cX1_feastDay 23 = .ok (.iaload, 1) := dz_46 (kBcX1_feastDay_0 23 rfl rfl)
theorem dX1_feastDay_24 : decode cX1_feastDay 24 = .ok (.iload_n 2, 1) := dz_28 (kBcX1_feastDay_0 24 rfl rfl)
theorem dX1_feastDay_25 : decode cX1_feastDay 25 = .ok (.invokevirtual 107, 3) := dz_182 (kBcX1_feastDay_0 25 rfl rfl) (kBcX1_feastDay_0 26 rfl rfl) (kBcX1_feastDay_0 27 rfl rfl) rfl
theorem dX1_feastDay_28 : decode cX1_feastDay 28 = .ok (.ifCond .eq 8, 3) := dz_153 (kBcX1_feastDay_0 28 rfl rfl) (kBcX1_feastDay_0 29 rfl rfl) (kBcX1_feastDay_0 30 rfl rfl) rfl
theorem dX1_feastDay_31 : decode cX1_feastDay 31 = .ok (.iload 4, 2) := dz_21 (kBcX1_feastDay_0 31 rfl rfl) (kBcX1_feastDay_1 32 rfl rfl)
theorem dX1_feastDay_33 : decode cX1_feastDay 33 = .ok (.goto 5, 3) := dz_167 (kBcX1_feastDay_1 33 rfl rfl) (kBcX1_feastDay_1 34 rfl rfl) (kBcX1_feastDay_1 35 rfl rfl) rfl
theorem dX1_feastDay_36 : decode cX1_feastDay 36 = .ok (.bipush (-9), 2) := dz_16 (kBcX1_feastDay_1 36 rfl rfl) (kBcX1_feastDay_1 37 rfl rfl) rfl
theorem dX1_feastDay_38 : decode cX1_feastDay 38 = .ok (.ireturn, 1) := dz_172 (kBcX1_feastDay_1 38 rfl rfl)
def kCcX1_feastOf_0 : List Nat := [27, 184, 0, 40, 28, 184, 0, 40, 42, 180, 0, 23, 28, 47, 184, 0, 77, 62, 42, 27, 29, 42, 180, 0, 26, 28, 46, 182, 0, 107, 87, 29]
def kCcX1_feastOf_1 : List Nat := [42, 180, 0, 26, 28, 46, 184, 0, 111, 184, 0, 92, 172]
def kRcX1_feastOf_2 : List Nat := []
def kRcX1_feastOf_1 : List Nat := kCcX1_feastOf_1 ++ kRcX1_feastOf_2
def kRcX1_feastOf_0 : List Nat := kCcX1_feastOf_0 ++ kRcX1_feastOf_1
theorem kRcX1_feastOf_eq : cX1_feastOf.data.toList.map UInt8.toNat = kRcX1_feastOf_0 := by decide +kernel
theorem katcX1_feastOf_0 (i : Nat) : (cX1_feastOf.data.toList.map UInt8.toNat)[0 + i]? = kRcX1_feastOf_0[i]? := by rw [kRcX1_feastOf_eq, Nat.zero_add]
theorem katcX1_feastOf_1 : ∀ i : Nat, (cX1_feastOf.data.toList.map UInt8.toNat)[32 + i]? = kRcX1_feastOf_1[i]? := kstep katcX1_feastOf_0 (C := kCcX1_feastOf_0) rfl rfl
theorem kBcX1_feastOf_0 {b : Nat} (p : Nat) (hp : Nat.ble 0 p = true) (h : kCcX1_feastOf_0[p - 0]? = some b) : kb cX1_feastOf p b := kin katcX1_feastOf_0 rfl hp h
theorem kBcX1_feastOf_1 {b : Nat} (p : Nat) (hp : Nat.ble 32 p = true) (h : kCcX1_feastOf_1[p - 32]? = some b) : kb cX1_feastOf p b := kin katcX1_feastOf_1 rfl hp h
theorem dX1_feastOf_0 : decode cX1_feastOf 0 = .ok (.iload_n 1, 1) := dz_27 (kBcX1_feastOf_0 0 rfl rfl)
theorem dX1_feastOf_1 : decode cX1_feastOf 1 = .ok (.invokestatic 40, 3) := dz_184 (kBcX1_feastOf_0 1 rfl rfl) (kBcX1_feastOf_0 2 rfl rfl) (kBcX1_feastOf_0 3 rfl rfl) rfl
theorem dX1_feastOf_4 : decode cX1_feastOf 4 = .ok (.iload_n 2, 1) := dz_28 (kBcX1_feastOf_0 4 rfl rfl)
theorem dX1_feastOf_5 : decode cX1_feastOf 5 = .ok (.invokestatic 40, 3) := dz_184 (kBcX1_feastOf_0 5 rfl rfl) (kBcX1_feastOf_0 6 rfl rfl) (kBcX1_feastOf_0 7 rfl rfl) rfl
theorem dX1_feastOf_8 : decode cX1_feastOf 8 = .ok (.aload_n 0, 1) := dz_42 (kBcX1_feastOf_0 8 rfl rfl)
theorem dX1_feastOf_9 : decode cX1_feastOf 9 = .ok (.getfield 23, 3) := dz_180 (kBcX1_feastOf_0 9 rfl rfl) (kBcX1_feastOf_0 10 rfl rfl) (kBcX1_feastOf_0 11 rfl rfl) rfl
theorem dX1_feastOf_12 : decode cX1_feastOf 12 = .ok (.iload_n 2, 1) := dz_28 (kBcX1_feastOf_0 12 rfl rfl)
theorem dX1_feastOf_13 : decode cX1_feastOf 13 = .ok (.laload, 1) := dz_47 (kBcX1_feastOf_0 13 rfl rfl)
theorem dX1_feastOf_14 : decode cX1_feastOf 14 = .ok (.invokestatic 77, 3) := dz_184 (kBcX1_feastOf_0 14 rfl rfl) (kBcX1_feastOf_0 15 rfl rfl) (kBcX1_feastOf_0 16 rfl rfl) rfl
theorem dX1_feastOf_17 : decode cX1_feastOf 17 = .ok (.istore_n 3, 1) := dz_62 (kBcX1_feastOf_0 17 rfl rfl)
theorem dX1_feastOf_18 : decode cX1_feastOf 18 = .ok (.aload_n 0, 1) := dz_42 (kBcX1_feastOf_0 18 rfl rfl)
theorem dX1_feastOf_19 : decode cX1_feastOf 19 = .ok (.iload_n 1, 1) := dz_27 (kBcX1_feastOf_0 19 rfl rfl)
theorem dX1_feastOf_20 : decode cX1_feastOf 20 = .ok (.iload_n 3, 1) := dz_29 (kBcX1_feastOf_0 20 rfl rfl)
theorem dX1_feastOf_21 : decode cX1_feastOf 21 = .ok (.aload_n 0, 1) := dz_42 (kBcX1_feastOf_0 21 rfl rfl)
theorem dX1_feastOf_22 : decode cX1_feastOf 22 = .ok (.getfield 26, 3) := dz_180 (kBcX1_feastOf_0 22 rfl rfl) (kBcX1_feastOf_0 23 rfl rfl) (kBcX1_feastOf_0 24 rfl rfl) rfl
theorem dX1_feastOf_25 : decode cX1_feastOf 25 = .ok (.iload_n 2, 1) := dz_28 (kBcX1_feastOf_0 25 rfl rfl)
theorem dX1_feastOf_26 : decode cX1_feastOf 26 = .ok (.iaload, 1) := dz_46 (kBcX1_feastOf_0 26 rfl rfl)
theorem dX1_feastOf_27 : decode cX1_feastOf 27 = .ok (.invokevirtual 107, 3) := dz_182 (kBcX1_feastOf_0 27 rfl rfl) (kBcX1_feastOf_0 28 rfl rfl) (kBcX1_feastOf_0 29 rfl rfl) rfl
theorem dX1_feastOf_30 : decode cX1_feastOf 30 = .ok (.pop, 1) := dz_87 (kBcX1_feastOf_0 30 rfl rfl)
theorem dX1_feastOf_31 : decode cX1_feastOf 31 = .ok (.iload_n 3, 1) := dz_29 (kBcX1_feastOf_0 31 rfl rfl)
theorem dX1_feastOf_32 : decode cX1_feastOf 32 = .ok (.aload_n 0, 1) := dz_42 (kBcX1_feastOf_1 32 rfl rfl)
theorem dX1_feastOf_33 : decode cX1_feastOf 33 = .ok (.getfield 26, 3) := dz_180 (kBcX1_feastOf_1 33 rfl rfl) (kBcX1_feastOf_1 34 rfl rfl) (kBcX1_feastOf_1 35 rfl rfl) rfl
theorem dX1_feastOf_36 : decode cX1_feastOf 36 = .ok (.iload_n 2, 1) := dz_28 (kBcX1_feastOf_1 36 rfl rfl)
theorem dX1_feastOf_37 : decode cX1_feastOf 37 = .ok (.iaload, 1) := dz_46 (kBcX1_feastOf_1 37 rfl rfl)
theorem dX1_feastOf_38 : decode cX1_feastOf 38 = .ok (.invokestatic 111, 3) := dz_184 (kBcX1_feastOf_1 38 rfl rfl) (kBcX1_feastOf_1 39 rfl rfl) (kBcX1_feastOf_1 40 rfl rfl) rfl
theorem dX1_feastOf_41 : decode cX1_feastOf 41 = .ok (.invokestatic 92, 3) := dz_184 (kBcX1_feastOf_1 41 rfl rfl) (kBcX1_feastOf_1 42 rfl rfl) (kBcX1_feastOf_1 43 rfl rfl) rfl
theorem dX1_feastOf_44 : decode cX1_feastOf 44 = .ok (.ireturn, 1) := dz_172 (kBcX1_feastOf_1 44 rfl rfl)
def kCcX1_feastLike_0 : List Nat := [27, 184, 0, 40, 28, 184, 0, 40, 42, 27, 182, 0, 125, 42, 28, 182, 0, 125, 160, 0, 7, 4, 167, 0, 4, 3, 184, 0, 92, 62, 42, 180]
def kCcX1_feastLike_1 : List Nat := [0, 17, 27, 42, 180, 0, 17, 28, 46, 79, 42, 180, 0, 20, 27, 42, 180, 0, 20, 28, 46, 79, 29, 172]
def kRcX1_feastLike_2 : List Nat := []
def kRcX1_feastLike_1 : List Nat := kCcX1_feastLike_1 ++ kRcX1_feastLike_2
def kRcX1_feastLike_0 : List Nat := kCcX1_feastLike_0 ++ kRcX1_feastLike_1
theorem kRcX1_feastLike_eq : cX1_feastLike.data.toList.map UInt8.toNat = kRcX1_feastLike_0 := by decide +kernel
theorem katcX1_feastLike_0 (i : Nat) : (cX1_feastLike.data.toList.map UInt8.toNat)[0 + i]? = kRcX1_feastLike_0[i]? := by rw [kRcX1_feastLike_eq, Nat.zero_add]
theorem katcX1_feastLike_1 : ∀ i : Nat, (cX1_feastLike.data.toList.map UInt8.toNat)[32 + i]? = kRcX1_feastLike_1[i]? := kstep katcX1_feastLike_0 (C := kCcX1_feastLike_0) rfl rfl
theorem kBcX1_feastLike_0 {b : Nat} (p : Nat) (hp : Nat.ble 0 p = true) (h : kCcX1_feastLike_0[p - 0]? = some b) : kb cX1_feastLike p b := kin katcX1_feastLike_0 rfl hp h
theorem kBcX1_feastLike_1 {b : Nat} (p : Nat) (hp : Nat.ble 32 p = true) (h : kCcX1_feastLike_1[p - 32]? = some b) : kb cX1_feastLike p b := kin katcX1_feastLike_1 rfl hp h
theorem dX1_feastLike_0 : decode cX1_feastLike 0 = .ok (.iload_n 1, 1) := dz_27 (kBcX1_feastLike_0 0 rfl rfl)
theorem dX1_feastLike_1 : decode cX1_feastLike 1 = .ok (.invokestatic 40, 3) := dz_184 (kBcX1_feastLike_0 1 rfl rfl) (kBcX1_feastLike_0 2 rfl rfl) (kBcX1_feastLike_0 3 rfl rfl) rfl
theorem dX1_feastLike_4 : decode cX1_feastLike 4 = .ok (.iload_n 2, 1) := dz_28 (kBcX1_feastLike_0 4 rfl rfl)
theorem dX1_feastLike_5 : decode cX1_feastLike 5 = .ok (.invokestatic 40, 3) := dz_184 (kBcX1_feastLike_0 5 rfl rfl) (kBcX1_feastLike_0 6 rfl rfl) (kBcX1_feastLike_0 7 rfl rfl) rfl
theorem dX1_feastLike_8 : decode cX1_feastLike 8 = .ok (.aload_n 0, 1) := dz_42 (kBcX1_feastLike_0 8 rfl rfl)
theorem dX1_feastLike_9 : decode cX1_feastLike 9 = .ok (.iload_n 1, 1) := dz_27 (kBcX1_feastLike_0 9 rfl rfl)
theorem dX1_feastLike_10 : decode cX1_feastLike 10 = .ok (.invokevirtual 125, 3) := dz_182 (kBcX1_feastLike_0 10 rfl rfl) (kBcX1_feastLike_0 11 rfl rfl) (kBcX1_feastLike_0 12 rfl rfl) rfl
theorem dX1_feastLike_13 : decode cX1_feastLike 13 = .ok (.aload_n 0, 1) := dz_42 (kBcX1_feastLike_0 13 rfl rfl)
theorem dX1_feastLike_14 : decode cX1_feastLike 14 = .ok (.iload_n 2, 1) := dz_28 (kBcX1_feastLike_0 14 rfl rfl)
theorem dX1_feastLike_15 : decode cX1_feastLike 15 = .ok (.invokevirtual 125, 3) := dz_182 (kBcX1_feastLike_0 15 rfl rfl) (kBcX1_feastLike_0 16 rfl rfl) (kBcX1_feastLike_0 17 rfl rfl) rfl
theorem dX1_feastLike_18 : decode cX1_feastLike 18 = .ok (.if_icmp .ne 7, 3) := dz_160 (kBcX1_feastLike_0 18 rfl rfl) (kBcX1_feastLike_0 19 rfl rfl) (kBcX1_feastLike_0 20 rfl rfl) rfl
theorem dX1_feastLike_21 : decode cX1_feastLike 21 = .ok (.iconst 1, 1) := dz_4 (kBcX1_feastLike_0 21 rfl rfl)
theorem dX1_feastLike_22 : decode cX1_feastLike 22 = .ok (.goto 4, 3) := dz_167 (kBcX1_feastLike_0 22 rfl rfl) (kBcX1_feastLike_0 23 rfl rfl) (kBcX1_feastLike_0 24 rfl rfl) rfl
theorem dX1_feastLike_25 : decode cX1_feastLike 25 = .ok (.iconst 0, 1) := dz_3 (kBcX1_feastLike_0 25 rfl rfl)
theorem dX1_feastLike_26 : decode cX1_feastLike 26 = .ok (.invokestatic 92, 3) := dz_184 (kBcX1_feastLike_0 26 rfl rfl) (kBcX1_feastLike_0 27 rfl rfl) (kBcX1_feastLike_0 28 rfl rfl) rfl
theorem dX1_feastLike_29 : decode cX1_feastLike 29 = .ok (.istore_n 3, 1) := dz_62 (kBcX1_feastLike_0 29 rfl rfl)
theorem dX1_feastLike_30 : decode cX1_feastLike 30 = .ok (.aload_n 0, 1) := dz_42 (kBcX1_feastLike_0 30 rfl rfl)
theorem dX1_feastLike_31 : decode cX1_feastLike 31 = .ok (.getfield 17, 3) := dz_180 (kBcX1_feastLike_0 31 rfl rfl) (kBcX1_feastLike_1 32 rfl rfl) (kBcX1_feastLike_1 33 rfl rfl) rfl
theorem dX1_feastLike_34 : decode cX1_feastLike 34 = .ok (.iload_n 1, 1) := dz_27 (kBcX1_feastLike_1 34 rfl rfl)
theorem dX1_feastLike_35 : decode cX1_feastLike 35 = .ok (.aload_n 0, 1) := dz_42 (kBcX1_feastLike_1 35 rfl rfl)
theorem dX1_feastLike_36 : decode cX1_feastLike 36 = .ok (.getfield 17, 3) := dz_180 (kBcX1_feastLike_1 36 rfl rfl) (kBcX1_feastLike_1 37 rfl rfl) (kBcX1_feastLike_1 38 rfl rfl) rfl
theorem dX1_feastLike_39 : decode cX1_feastLike 39 = .ok (.iload_n 2, 1) := dz_28 (kBcX1_feastLike_1 39 rfl rfl)
theorem dX1_feastLike_40 : decode cX1_feastLike 40 = .ok (.iaload, 1) := dz_46 (kBcX1_feastLike_1 40 rfl rfl)
theorem dX1_feastLike_41 : decode cX1_feastLike 41 = .ok (.iastore, 1) := dz_79 (kBcX1_feastLike_1 41 rfl rfl)
theorem dX1_feastLike_42 : decode cX1_feastLike 42 = .ok (.aload_n 0, 1) := dz_42 (kBcX1_feastLike_1 42 rfl rfl)
theorem dX1_feastLike_43 : decode cX1_feastLike 43 = .ok (.getfield 20, 3) := dz_180 (kBcX1_feastLike_1 43 rfl rfl) (kBcX1_feastLike_1 44 rfl rfl) (kBcX1_feastLike_1 45 rfl rfl) rfl
theorem dX1_feastLike_46 : decode cX1_feastLike 46 = .ok (.iload_n 1, 1) := dz_27 (kBcX1_feastLike_1 46 rfl rfl)
theorem dX1_feastLike_47 : decode cX1_feastLike 47 = .ok (.aload_n 0, 1) := dz_42 (kBcX1_feastLike_1 47 rfl rfl)
theorem dX1_feastLike_48 : decode cX1_feastLike 48 = .ok (.getfield 20, 3) := dz_180 (kBcX1_feastLike_1 48 rfl rfl) (kBcX1_feastLike_1 49 rfl rfl) (kBcX1_feastLike_1 50 rfl rfl) rfl
theorem dX1_feastLike_51 : decode cX1_feastLike 51 = .ok (.iload_n 2, 1) := dz_28 (kBcX1_feastLike_1 51 rfl rfl)
theorem dX1_feastLike_52 : decode cX1_feastLike 52 = .ok (.iaload, 1) := dz_46 (kBcX1_feastLike_1 52 rfl rfl)
theorem dX1_feastLike_53 : decode cX1_feastLike 53 = .ok (.iastore, 1) := dz_79 (kBcX1_feastLike_1 53 rfl rfl)
theorem dX1_feastLike_54 : decode cX1_feastLike 54 = .ok (.iload_n 3, 1) := dz_29 (kBcX1_feastLike_1 54 rfl rfl)
theorem dX1_feastLike_55 : decode cX1_feastLike 55 = .ok (.ireturn, 1) := dz_172 (kBcX1_feastLike_1 55 rfl rfl)
def kCcX1_dayAt_0 : List Nat := [27, 184, 0, 40, 28, 184, 0, 40, 29, 184, 0, 104, 42, 180, 0, 9, 28, 47, 29, 184, 0, 128, 154, 0, 6, 16, 247, 172, 42, 27, 42, 180]
def kCcX1_dayAt_1 : List Nat := [0, 9, 28, 47, 29, 182, 0, 132, 42, 27, 182, 0, 136, 172]
def kRcX1_dayAt_2 : List Nat := []
def kRcX1_dayAt_1 : List Nat := kCcX1_dayAt_1 ++ kRcX1_dayAt_2
def kRcX1_dayAt_0 : List Nat := kCcX1_dayAt_0 ++ kRcX1_dayAt_1
theorem kRcX1_dayAt_eq : cX1_dayAt.data.toList.map UInt8.toNat = kRcX1_dayAt_0 := by decide +kernel
theorem katcX1_dayAt_0 (i : Nat) : (cX1_dayAt.data.toList.map UInt8.toNat)[0 + i]? = kRcX1_dayAt_0[i]? := by rw [kRcX1_dayAt_eq, Nat.zero_add]
theorem katcX1_dayAt_1 : ∀ i : Nat, (cX1_dayAt.data.toList.map UInt8.toNat)[32 + i]? = kRcX1_dayAt_1[i]? := kstep katcX1_dayAt_0 (C := kCcX1_dayAt_0) rfl rfl
theorem kBcX1_dayAt_0 {b : Nat} (p : Nat) (hp : Nat.ble 0 p = true) (h : kCcX1_dayAt_0[p - 0]? = some b) : kb cX1_dayAt p b := kin katcX1_dayAt_0 rfl hp h
theorem kBcX1_dayAt_1 {b : Nat} (p : Nat) (hp : Nat.ble 32 p = true) (h : kCcX1_dayAt_1[p - 32]? = some b) : kb cX1_dayAt p b := kin katcX1_dayAt_1 rfl hp h
theorem dX1_dayAt_0 : decode cX1_dayAt 0 = .ok (.iload_n 1, 1) := dz_27 (kBcX1_dayAt_0 0 rfl rfl)
theorem dX1_dayAt_1 : decode cX1_dayAt 1 = .ok (.invokestatic 40, 3) := dz_184 (kBcX1_dayAt_0 1 rfl rfl) (kBcX1_dayAt_0 2 rfl rfl) (kBcX1_dayAt_0 3 rfl rfl) rfl
theorem dX1_dayAt_4 : decode cX1_dayAt 4 = .ok (.iload_n 2, 1) := dz_28 (kBcX1_dayAt_0 4 rfl rfl)
theorem dX1_dayAt_5 : decode cX1_dayAt 5 = .ok (.invokestatic 40, 3) := dz_184 (kBcX1_dayAt_0 5 rfl rfl) (kBcX1_dayAt_0 6 rfl rfl) (kBcX1_dayAt_0 7 rfl rfl) rfl
theorem dX1_dayAt_8 : decode cX1_dayAt 8 = .ok (.iload_n 3, 1) := dz_29 (kBcX1_dayAt_0 8 rfl rfl)
theorem dX1_dayAt_9 : decode cX1_dayAt 9 = .ok (.invokestatic 104, 3) := dz_184 (kBcX1_dayAt_0 9 rfl rfl) (kBcX1_dayAt_0 10 rfl rfl) (kBcX1_dayAt_0 11 rfl rfl) rfl
theorem dX1_dayAt_12 : decode cX1_dayAt 12 = .ok (.aload_n 0, 1) := dz_42 (kBcX1_dayAt_0 12 rfl rfl)
theorem dX1_dayAt_13 : decode cX1_dayAt 13 = .ok (.getfield 9, 3) := dz_180 (kBcX1_dayAt_0 13 rfl rfl) (kBcX1_dayAt_0 14 rfl rfl) (kBcX1_dayAt_0 15 rfl rfl) rfl
theorem dX1_dayAt_16 : decode cX1_dayAt 16 = .ok (.iload_n 2, 1) := dz_28 (kBcX1_dayAt_0 16 rfl rfl)
theorem dX1_dayAt_17 : decode cX1_dayAt 17 = .ok (.laload, 1) := dz_47 (kBcX1_dayAt_0 17 rfl rfl)
theorem dX1_dayAt_18 : decode cX1_dayAt 18 = .ok (.iload_n 3, 1) := dz_29 (kBcX1_dayAt_0 18 rfl rfl)
theorem dX1_dayAt_19 : decode cX1_dayAt 19 = .ok (.invokestatic 128, 3) := dz_184 (kBcX1_dayAt_0 19 rfl rfl) (kBcX1_dayAt_0 20 rfl rfl) (kBcX1_dayAt_0 21 rfl rfl) rfl
theorem dX1_dayAt_22 : decode cX1_dayAt 22 = .ok (.ifCond .ne 6, 3) := dz_154 (kBcX1_dayAt_0 22 rfl rfl) (kBcX1_dayAt_0 23 rfl rfl) (kBcX1_dayAt_0 24 rfl rfl) rfl
theorem dX1_dayAt_25 : decode cX1_dayAt 25 = .ok (.bipush (-9), 2) := dz_16 (kBcX1_dayAt_0 25 rfl rfl) (kBcX1_dayAt_0 26 rfl rfl) rfl
theorem dX1_dayAt_27 : decode cX1_dayAt 27 = .ok (.ireturn, 1) := dz_172 (kBcX1_dayAt_0 27 rfl rfl)
theorem dX1_dayAt_28 : decode cX1_dayAt 28 = .ok (.aload_n 0, 1) := dz_42 (kBcX1_dayAt_0 28 rfl rfl)
theorem dX1_dayAt_29 : decode cX1_dayAt 29 = .ok (.iload_n 1, 1) := dz_27 (kBcX1_dayAt_0 29 rfl rfl)
theorem dX1_dayAt_30 : decode cX1_dayAt 30 = .ok (.aload_n 0, 1) := dz_42 (kBcX1_dayAt_0 30 rfl rfl)
theorem dX1_dayAt_31 : decode cX1_dayAt 31 = .ok (.getfield 9, 3) := dz_180 (kBcX1_dayAt_0 31 rfl rfl) (kBcX1_dayAt_1 32 rfl rfl) (kBcX1_dayAt_1 33 rfl rfl) rfl
theorem dX1_dayAt_34 : decode cX1_dayAt 34 = .ok (.iload_n 2, 1) := dz_28 (kBcX1_dayAt_1 34 rfl rfl)
theorem dX1_dayAt_35 : decode cX1_dayAt 35 = .ok (.laload, 1) := dz_47 (kBcX1_dayAt_1 35 rfl rfl)
theorem dX1_dayAt_36 : decode cX1_dayAt 36 = .ok (.iload_n 3, 1) := dz_29 (kBcX1_dayAt_1 36 rfl rfl)
theorem dX1_dayAt_37 : decode cX1_dayAt 37 = .ok (.invokevirtual 132, 3) := dz_182 (kBcX1_dayAt_1 37 rfl rfl) (kBcX1_dayAt_1 38 rfl rfl) (kBcX1_dayAt_1 39 rfl rfl) rfl
theorem dX1_dayAt_40 : decode cX1_dayAt 40 = .ok (.aload_n 0, 1) := dz_42 (kBcX1_dayAt_1 40 rfl rfl)
theorem dX1_dayAt_41 : decode cX1_dayAt 41 = .ok (.iload_n 1, 1) := dz_27 (kBcX1_dayAt_1 41 rfl rfl)
theorem dX1_dayAt_42 : decode cX1_dayAt 42 = .ok (.invokevirtual 136, 3) := dz_182 (kBcX1_dayAt_1 42 rfl rfl) (kBcX1_dayAt_1 43 rfl rfl) (kBcX1_dayAt_1 44 rfl rfl) rfl
theorem dX1_dayAt_45 : decode cX1_dayAt 45 = .ok (.ireturn, 1) := dz_172 (kBcX1_dayAt_1 45 rfl rfl)
def kCcX1_dayEnd_0 : List Nat := [27, 184, 0, 40, 28, 184, 0, 40, 42, 27, 42, 180, 0, 9, 28, 47, 42, 180, 0, 9, 28, 47, 184, 0, 139, 182, 0, 132, 42, 180, 0, 26]
def kCcX1_dayEnd_1 : List Nat := [27, 46, 172]
def kRcX1_dayEnd_2 : List Nat := []
def kRcX1_dayEnd_1 : List Nat := kCcX1_dayEnd_1 ++ kRcX1_dayEnd_2
def kRcX1_dayEnd_0 : List Nat := kCcX1_dayEnd_0 ++ kRcX1_dayEnd_1
theorem kRcX1_dayEnd_eq : cX1_dayEnd.data.toList.map UInt8.toNat = kRcX1_dayEnd_0 := by decide +kernel
theorem katcX1_dayEnd_0 (i : Nat) : (cX1_dayEnd.data.toList.map UInt8.toNat)[0 + i]? = kRcX1_dayEnd_0[i]? := by rw [kRcX1_dayEnd_eq, Nat.zero_add]
theorem katcX1_dayEnd_1 : ∀ i : Nat, (cX1_dayEnd.data.toList.map UInt8.toNat)[32 + i]? = kRcX1_dayEnd_1[i]? := kstep katcX1_dayEnd_0 (C := kCcX1_dayEnd_0) rfl rfl
theorem kBcX1_dayEnd_0 {b : Nat} (p : Nat) (hp : Nat.ble 0 p = true) (h : kCcX1_dayEnd_0[p - 0]? = some b) : kb cX1_dayEnd p b := kin katcX1_dayEnd_0 rfl hp h
theorem kBcX1_dayEnd_1 {b : Nat} (p : Nat) (hp : Nat.ble 32 p = true) (h : kCcX1_dayEnd_1[p - 32]? = some b) : kb cX1_dayEnd p b := kin katcX1_dayEnd_1 rfl hp h
theorem dX1_dayEnd_0 : decode cX1_dayEnd 0 = .ok (.iload_n 1, 1) := dz_27 (kBcX1_dayEnd_0 0 rfl rfl)
theorem dX1_dayEnd_1 : decode cX1_dayEnd 1 = .ok (.invokestatic 40, 3) := dz_184 (kBcX1_dayEnd_0 1 rfl rfl) (kBcX1_dayEnd_0 2 rfl rfl) (kBcX1_dayEnd_0 3 rfl rfl) rfl
theorem dX1_dayEnd_4 : decode cX1_dayEnd 4 = .ok (.iload_n 2, 1) := dz_28 (kBcX1_dayEnd_0 4 rfl rfl)
theorem dX1_dayEnd_5 : decode cX1_dayEnd 5 = .ok (.invokestatic 40, 3) := dz_184 (kBcX1_dayEnd_0 5 rfl rfl) (kBcX1_dayEnd_0 6 rfl rfl) (kBcX1_dayEnd_0 7 rfl rfl) rfl
theorem dX1_dayEnd_8 : decode cX1_dayEnd 8 = .ok (.aload_n 0, 1) := dz_42 (kBcX1_dayEnd_0 8 rfl rfl)
theorem dX1_dayEnd_9 : decode cX1_dayEnd 9 = .ok (.iload_n 1, 1) := dz_27 (kBcX1_dayEnd_0 9 rfl rfl)
theorem dX1_dayEnd_10 : decode cX1_dayEnd 10 = .ok (.aload_n 0, 1) := dz_42 (kBcX1_dayEnd_0 10 rfl rfl)
theorem dX1_dayEnd_11 : decode cX1_dayEnd 11 = .ok (.getfield 9, 3) := dz_180 (kBcX1_dayEnd_0 11 rfl rfl) (kBcX1_dayEnd_0 12 rfl rfl) (kBcX1_dayEnd_0 13 rfl rfl) rfl
theorem dX1_dayEnd_14 : decode cX1_dayEnd 14 = .ok (.iload_n 2, 1) := dz_28 (kBcX1_dayEnd_0 14 rfl rfl)
theorem dX1_dayEnd_15 : decode cX1_dayEnd 15 = .ok (.laload, 1) := dz_47 (kBcX1_dayEnd_0 15 rfl rfl)
theorem dX1_dayEnd_16 : decode cX1_dayEnd 16 = .ok (.aload_n 0, 1) := dz_42 (kBcX1_dayEnd_0 16 rfl rfl)
theorem dX1_dayEnd_17 : decode cX1_dayEnd 17 = .ok (.getfield 9, 3) := dz_180 (kBcX1_dayEnd_0 17 rfl rfl) (kBcX1_dayEnd_0 18 rfl rfl) (kBcX1_dayEnd_0 19 rfl rfl) rfl
theorem dX1_dayEnd_20 : decode cX1_dayEnd 20 = .ok (.iload_n 2, 1) := dz_28 (kBcX1_dayEnd_0 20 rfl rfl)
theorem dX1_dayEnd_21 : decode cX1_dayEnd 21 = .ok (.laload, 1) := dz_47 (kBcX1_dayEnd_0 21 rfl rfl)
theorem dX1_dayEnd_22 : decode cX1_dayEnd 22 = .ok (.invokestatic 139, 3) := dz_184 (kBcX1_dayEnd_0 22 rfl rfl) (kBcX1_dayEnd_0 23 rfl rfl) (kBcX1_dayEnd_0 24 rfl rfl) rfl
theorem dX1_dayEnd_25 : decode cX1_dayEnd 25 = .ok (.invokevirtual 132, 3) := dz_182 (kBcX1_dayEnd_0 25 rfl rfl) (kBcX1_dayEnd_0 26 rfl rfl) (kBcX1_dayEnd_0 27 rfl rfl) rfl
theorem dX1_dayEnd_28 : decode cX1_dayEnd 28 = .ok (.aload_n 0, 1) := dz_42 (kBcX1_dayEnd_0 28 rfl rfl)
theorem dX1_dayEnd_29 : decode cX1_dayEnd 29 = .ok (.getfield 26, 3) := dz_180 (kBcX1_dayEnd_0 29 rfl rfl) (kBcX1_dayEnd_0 30 rfl rfl) (kBcX1_dayEnd_0 31 rfl rfl) rfl
theorem dX1_dayEnd_32 : decode cX1_dayEnd 32 = .ok (.iload_n 1, 1) := dz_27 (kBcX1_dayEnd_1 32 rfl rfl)
theorem dX1_dayEnd_33 : decode cX1_dayEnd 33 = .ok (.iaload, 1) := dz_46 (kBcX1_dayEnd_1 33 rfl rfl)
theorem dX1_dayEnd_34 : decode cX1_dayEnd 34 = .ok (.ireturn, 1) := dz_172 (kBcX1_dayEnd_1 34 rfl rfl)
def kCcX1_dayInYear_0 : List Nat := [27, 184, 0, 40, 28, 184, 0, 40, 29, 4, 17, 1, 110, 184, 0, 71, 42, 180, 0, 13, 28, 46, 54, 4, 29, 21, 4, 133, 184, 0, 142, 164]
def kCcX1_dayInYear_1 : List Nat := [0, 6, 16, 247, 172, 21, 4, 133, 184, 0, 145, 54, 5, 29, 21, 5, 184, 0, 149, 54, 6, 42, 27, 21, 4, 21, 6, 184, 0, 50, 29, 21]
def kCcX1_dayInYear_2 : List Nat := [6, 21, 5, 184, 0, 152, 100, 182, 0, 132, 21, 6, 172]
def kRcX1_dayInYear_3 : List Nat := []
def kRcX1_dayInYear_2 : List Nat := kCcX1_dayInYear_2 ++ kRcX1_dayInYear_3
def kRcX1_dayInYear_1 : List Nat := kCcX1_dayInYear_1 ++ kRcX1_dayInYear_2
def kRcX1_dayInYear_0 : List Nat := kCcX1_dayInYear_0 ++ kRcX1_dayInYear_1
theorem kRcX1_dayInYear_eq : cX1_dayInYear.data.toList.map UInt8.toNat = kRcX1_dayInYear_0 := by decide +kernel
theorem katcX1_dayInYear_0 (i : Nat) : (cX1_dayInYear.data.toList.map UInt8.toNat)[0 + i]? = kRcX1_dayInYear_0[i]? := by rw [kRcX1_dayInYear_eq, Nat.zero_add]
theorem katcX1_dayInYear_1 : ∀ i : Nat, (cX1_dayInYear.data.toList.map UInt8.toNat)[32 + i]? = kRcX1_dayInYear_1[i]? := kstep katcX1_dayInYear_0 (C := kCcX1_dayInYear_0) rfl rfl
theorem katcX1_dayInYear_2 : ∀ i : Nat, (cX1_dayInYear.data.toList.map UInt8.toNat)[64 + i]? = kRcX1_dayInYear_2[i]? := kstep katcX1_dayInYear_1 (C := kCcX1_dayInYear_1) rfl rfl
theorem kBcX1_dayInYear_0 {b : Nat} (p : Nat) (hp : Nat.ble 0 p = true) (h : kCcX1_dayInYear_0[p - 0]? = some b) : kb cX1_dayInYear p b := kin katcX1_dayInYear_0 rfl hp h
theorem kBcX1_dayInYear_1 {b : Nat} (p : Nat) (hp : Nat.ble 32 p = true) (h : kCcX1_dayInYear_1[p - 32]? = some b) : kb cX1_dayInYear p b := kin katcX1_dayInYear_1 rfl hp h
theorem kBcX1_dayInYear_2 {b : Nat} (p : Nat) (hp : Nat.ble 64 p = true) (h : kCcX1_dayInYear_2[p - 64]? = some b) : kb cX1_dayInYear p b := kin katcX1_dayInYear_2 rfl hp h
theorem dX1_dayInYear_0 : decode cX1_dayInYear 0 = .ok (.iload_n 1, 1) := dz_27 (kBcX1_dayInYear_0 0 rfl rfl)
theorem dX1_dayInYear_1 : decode cX1_dayInYear 1 = .ok (.invokestatic 40, 3) := dz_184 (kBcX1_dayInYear_0 1 rfl rfl) (kBcX1_dayInYear_0 2 rfl rfl) (kBcX1_dayInYear_0 3 rfl rfl) rfl
theorem dX1_dayInYear_4 : decode cX1_dayInYear 4 = .ok (.iload_n 2, 1) := dz_28 (kBcX1_dayInYear_0 4 rfl rfl)
theorem dX1_dayInYear_5 : decode cX1_dayInYear 5 = .ok (.invokestatic 40, 3) := dz_184 (kBcX1_dayInYear_0 5 rfl rfl) (kBcX1_dayInYear_0 6 rfl rfl) (kBcX1_dayInYear_0 7 rfl rfl) rfl
theorem dX1_dayInYear_8 : decode cX1_dayInYear 8 = .ok (.iload_n 3, 1) := dz_29 (kBcX1_dayInYear_0 8 rfl rfl)
theorem dX1_dayInYear_9 : decode cX1_dayInYear 9 = .ok (.iconst 1, 1) := dz_4 (kBcX1_dayInYear_0 9 rfl rfl)
theorem dX1_dayInYear_10 : decode cX1_dayInYear 10 = .ok (.sipush 366, 3) := dz_17 (kBcX1_dayInYear_0 10 rfl rfl) (kBcX1_dayInYear_0 11 rfl rfl) (kBcX1_dayInYear_0 12 rfl rfl) rfl
theorem dX1_dayInYear_13 : decode cX1_dayInYear 13 = .ok (.invokestatic 71, 3) := dz_184 (kBcX1_dayInYear_0 13 rfl rfl) (kBcX1_dayInYear_0 14 rfl rfl) (kBcX1_dayInYear_0 15 rfl rfl) rfl
theorem dX1_dayInYear_16 : decode cX1_dayInYear 16 = .ok (.aload_n 0, 1) := dz_42 (kBcX1_dayInYear_0 16 rfl rfl)
theorem dX1_dayInYear_17 : decode cX1_dayInYear 17 = .ok (.getfield 13, 3) := dz_180 (kBcX1_dayInYear_0 17 rfl rfl) (kBcX1_dayInYear_0 18 rfl rfl) (kBcX1_dayInYear_0 19 rfl rfl) rfl
theorem dX1_dayInYear_20 : decode cX1_dayInYear 20 = .ok (.iload_n 2, 1) := dz_28 (kBcX1_dayInYear_0 20 rfl rfl)
theorem dX1_dayInYear_21 : decode cX1_dayInYear 21 = .ok (.iaload, 1) := dz_46 (kBcX1_dayInYear_0 21 rfl rfl)
theorem dX1_dayInYear_22 : decode cX1_dayInYear 22 = .ok (.istore 4, 2) := dz_54 (kBcX1_dayInYear_0 22 rfl rfl) (kBcX1_dayInYear_0 23 rfl rfl)
theorem dX1_dayInYear_24 : decode cX1_dayInYear 24 = .ok (.iload_n 3, 1) := dz_29 (kBcX1_dayInYear_0 24 rfl rfl)
theorem dX1_dayInYear_25 : decode cX1_dayInYear 25 = .ok (.iload 4, 2) := dz_21 (kBcX1_dayInYear_0 25 rfl rfl) (kBcX1_dayInYear_0 26 rfl rfl)
theorem dX1_dayInYear_27 : decode cX1_dayInYear 27 = .ok (.i2l, 1) := dz_133 (kBcX1_dayInYear_0 27 rfl rfl)
theorem dX1_dayInYear_28 : decode cX1_dayInYear 28 = .ok (.invokestatic 142, 3) := dz_184 (kBcX1_dayInYear_0 28 rfl rfl) (kBcX1_dayInYear_0 29 rfl rfl) (kBcX1_dayInYear_0 30 rfl rfl) rfl
theorem dX1_dayInYear_31 : decode cX1_dayInYear 31 = .ok (.if_icmp .le 6, 3) := dz_164 (kBcX1_dayInYear_0 31 rfl rfl) (kBcX1_dayInYear_1 32 rfl rfl) (kBcX1_dayInYear_1 33 rfl rfl) rfl
theorem dX1_dayInYear_34 : decode cX1_dayInYear 34 = .ok (.bipush (-9), 2) := dz_16 (kBcX1_dayInYear_1 34 rfl rfl) (kBcX1_dayInYear_1 35 rfl rfl) rfl
theorem dX1_dayInYear_36 : decode cX1_dayInYear 36 = .ok (.ireturn, 1) := dz_172 (kBcX1_dayInYear_1 36 rfl rfl)
theorem dX1_dayInYear_37 : decode cX1_dayInYear 37 = .ok (.iload 4, 2) := dz_21 (kBcX1_dayInYear_1 37 rfl rfl) (kBcX1_dayInYear_1 38 rfl rfl)
theorem dX1_dayInYear_39 : decode cX1_dayInYear 39 = .ok (.i2l, 1) := dz_133 (kBcX1_dayInYear_1 39 rfl rfl)
theorem dX1_dayInYear_40 : decode cX1_dayInYear 40 = .ok (.invokestatic 145, 3) := dz_184 (kBcX1_dayInYear_1 40 rfl rfl) (kBcX1_dayInYear_1 41 rfl rfl) (kBcX1_dayInYear_1 42 rfl rfl) rfl
theorem dX1_dayInYear_43 : decode cX1_dayInYear 43 = .ok (.istore 5, 2) := dz_54 (kBcX1_dayInYear_1 43 rfl rfl) (kBcX1_dayInYear_1 44 rfl rfl)
theorem dX1_dayInYear_45 : decode cX1_dayInYear 45 = .ok (.iload_n 3, 1) := dz_29 (kBcX1_dayInYear_1 45 rfl rfl)
theorem dX1_dayInYear_46 : decode cX1_dayInYear 46 = .ok (.iload 5, 2) := dz_21 (kBcX1_dayInYear_1 46 rfl rfl) (kBcX1_dayInYear_1 47 rfl rfl)
theorem dX1_dayInYear_48 : decode cX1_dayInYear 48 = .ok (.invokestatic 149, 3) := dz_184 (kBcX1_dayInYear_1 48 rfl rfl) (kBcX1_dayInYear_1 49 rfl rfl) (kBcX1_dayInYear_1 50 rfl rfl) rfl
theorem dX1_dayInYear_51 : decode cX1_dayInYear 51 = .ok (.istore 6, 2) := dz_54 (kBcX1_dayInYear_1 51 rfl rfl) (kBcX1_dayInYear_1 52 rfl rfl)
theorem dX1_dayInYear_53 : decode cX1_dayInYear 53 = .ok (.aload_n 0, 1) := dz_42 (kBcX1_dayInYear_1 53 rfl rfl)
theorem dX1_dayInYear_54 : decode cX1_dayInYear 54 = .ok (.iload_n 1, 1) := dz_27 (kBcX1_dayInYear_1 54 rfl rfl)
theorem dX1_dayInYear_55 : decode cX1_dayInYear 55 = .ok (.iload 4, 2) := dz_21 (kBcX1_dayInYear_1 55 rfl rfl) (kBcX1_dayInYear_1 56 rfl rfl)
theorem dX1_dayInYear_57 : decode cX1_dayInYear 57 = .ok (.iload 6, 2) := dz_21 (kBcX1_dayInYear_1 57 rfl rfl) (kBcX1_dayInYear_1 58 rfl rfl)
theorem dX1_dayInYear_59 : decode cX1_dayInYear 59 = .ok (.invokestatic 50, 3) := dz_184 (kBcX1_dayInYear_1 59 rfl rfl) (kBcX1_dayInYear_1 60 rfl rfl) (kBcX1_dayInYear_1 61 rfl rfl) rfl
theorem dX1_dayInYear_62 : decode cX1_dayInYear 62 = .ok (.iload_n 3, 1) := dz_29 (kBcX1_dayInYear_1 62 rfl rfl)
theorem dX1_dayInYear_63 : decode cX1_dayInYear 63 = .ok (.iload 6, 2) := dz_21 (kBcX1_dayInYear_1 63 rfl rfl) (kBcX1_dayInYear_2 64 rfl rfl)
theorem dX1_dayInYear_65 : decode cX1_dayInYear 65 = .ok (.iload 5, 2) := dz_21 (kBcX1_dayInYear_2 65 rfl rfl) (kBcX1_dayInYear_2 66 rfl rfl)
theorem dX1_dayInYear_67 : decode cX1_dayInYear 67 = .ok (.invokestatic 152, 3) := dz_184 (kBcX1_dayInYear_2 67 rfl rfl) (kBcX1_dayInYear_2 68 rfl rfl) (kBcX1_dayInYear_2 69 rfl rfl) rfl
theorem dX1_dayInYear_70 : decode cX1_dayInYear 70 = .ok (.isub, 1) := dz_100 (kBcX1_dayInYear_2 70 rfl rfl)
theorem dX1_dayInYear_71 : decode cX1_dayInYear 71 = .ok (.invokevirtual 132, 3) := dz_182 (kBcX1_dayInYear_2 71 rfl rfl) (kBcX1_dayInYear_2 72 rfl rfl) (kBcX1_dayInYear_2 73 rfl rfl) rfl
theorem dX1_dayInYear_74 : decode cX1_dayInYear 74 = .ok (.iload 6, 2) := dz_21 (kBcX1_dayInYear_2 74 rfl rfl) (kBcX1_dayInYear_2 75 rfl rfl)
theorem dX1_dayInYear_76 : decode cX1_dayInYear 76 = .ok (.ireturn, 1) := dz_172 (kBcX1_dayInYear_2 76 rfl rfl)
def kCcX1_dayOfFeast_0 : List Nat := [27, 184, 0, 40, 28, 184, 0, 40, 29, 184, 0, 44, 42, 27, 28, 29, 182, 0, 155, 42, 27, 182, 0, 136, 172]
theorem kRcX1_dayOfFeast_eq : cX1_dayOfFeast.data.toList.map UInt8.toNat = kCcX1_dayOfFeast_0 := by decide +kernel
theorem dX1_dayOfFeast_0 : decode cX1_dayOfFeast 0 = .ok (.iload_n 1, 1) := dz_27 (kin0 (p := 0) kRcX1_dayOfFeast_eq rfl)
theorem dX1_dayOfFeast_1 : decode cX1_dayOfFeast 1 = .ok (.invokestatic 40, 3) := dz_184 (kin0 (p := 1) kRcX1_dayOfFeast_eq rfl) (kin0 (p := 2) kRcX1_dayOfFeast_eq rfl) (kin0 (p := 3) kRcX1_dayOfFeast_eq rfl) rfl
theorem dX1_dayOfFeast_4 : decode cX1_dayOfFeast 4 = .ok (.iload_n 2, 1) := dz_28 (kin0 (p := 4) kRcX1_dayOfFeast_eq rfl)
theorem dX1_dayOfFeast_5 : decode cX1_dayOfFeast 5 = .ok (.invokestatic 40, 3) := dz_184 (kin0 (p := 5) kRcX1_dayOfFeast_eq rfl) (kin0 (p := 6) kRcX1_dayOfFeast_eq rfl) (kin0 (p := 7) kRcX1_dayOfFeast_eq rfl) rfl
theorem dX1_dayOfFeast_8 : decode cX1_dayOfFeast 8 = .ok (.iload_n 3, 1) := dz_29 (kin0 (p := 8) kRcX1_dayOfFeast_eq rfl)
theorem dX1_dayOfFeast_9 : decode cX1_dayOfFeast 9 = .ok (.invokestatic 44, 3) := dz_184 (kin0 (p := 9) kRcX1_dayOfFeast_eq rfl) (kin0 (p := 10) kRcX1_dayOfFeast_eq rfl) (kin0 (p := 11) kRcX1_dayOfFeast_eq rfl) rfl
theorem dX1_dayOfFeast_12 : decode cX1_dayOfFeast 12 = .ok (.aload_n 0, 1) := dz_42 (kin0 (p := 12) kRcX1_dayOfFeast_eq rfl)
theorem dX1_dayOfFeast_13 : decode cX1_dayOfFeast 13 = .ok (.iload_n 1, 1) := dz_27 (kin0 (p := 13) kRcX1_dayOfFeast_eq rfl)
theorem dX1_dayOfFeast_14 : decode cX1_dayOfFeast 14 = .ok (.iload_n 2, 1) := dz_28 (kin0 (p := 14) kRcX1_dayOfFeast_eq rfl)
theorem dX1_dayOfFeast_15 : decode cX1_dayOfFeast 15 = .ok (.iload_n 3, 1) := dz_29 (kin0 (p := 15) kRcX1_dayOfFeast_eq rfl)
theorem dX1_dayOfFeast_16 : decode cX1_dayOfFeast 16 = .ok (.invokevirtual 155, 3) := dz_182 (kin0 (p := 16) kRcX1_dayOfFeast_eq rfl) (kin0 (p := 17) kRcX1_dayOfFeast_eq rfl) (kin0 (p := 18) kRcX1_dayOfFeast_eq rfl) rfl
theorem dX1_dayOfFeast_19 : decode cX1_dayOfFeast 19 = .ok (.aload_n 0, 1) := dz_42 (kin0 (p := 19) kRcX1_dayOfFeast_eq rfl)
theorem dX1_dayOfFeast_20 : decode cX1_dayOfFeast 20 = .ok (.iload_n 1, 1) := dz_27 (kin0 (p := 20) kRcX1_dayOfFeast_eq rfl)
theorem dX1_dayOfFeast_21 : decode cX1_dayOfFeast 21 = .ok (.invokevirtual 136, 3) := dz_182 (kin0 (p := 21) kRcX1_dayOfFeast_eq rfl) (kin0 (p := 22) kRcX1_dayOfFeast_eq rfl) (kin0 (p := 23) kRcX1_dayOfFeast_eq rfl) rfl
theorem dX1_dayOfFeast_24 : decode cX1_dayOfFeast 24 = .ok (.ireturn, 1) := dz_172 (kin0 (p := 24) kRcX1_dayOfFeast_eq rfl)
def kCcX1_dayOfYear_0 : List Nat := [27, 184, 0, 40, 28, 184, 0, 40, 29, 184, 0, 40, 42, 27, 29, 42, 180, 0, 13, 28, 46, 182, 0, 155, 42, 180, 0, 26, 27, 46, 172]
theorem kRcX1_dayOfYear_eq : cX1_dayOfYear.data.toList.map UInt8.toNat = kCcX1_dayOfYear_0 := by decide +kernel
theorem dX1_dayOfYear_0 : decode cX1_dayOfYear 0 = .ok (.iload_n 1, 1) := dz_27 (kin0 (p := 0) kRcX1_dayOfYear_eq rfl)
theorem dX1_dayOfYear_1 : decode cX1_dayOfYear 1 = .ok (.invokestatic 40, 3) := dz_184 (kin0 (p := 1) kRcX1_dayOfYear_eq rfl) (kin0 (p := 2) kRcX1_dayOfYear_eq rfl) (kin0 (p := 3) kRcX1_dayOfYear_eq rfl) rfl
theorem dX1_dayOfYear_4 : decode cX1_dayOfYear 4 = .ok (.iload_n 2, 1) := dz_28 (kin0 (p := 4) kRcX1_dayOfYear_eq rfl)
theorem dX1_dayOfYear_5 : decode cX1_dayOfYear 5 = .ok (.invokestatic 40, 3) := dz_184 (kin0 (p := 5) kRcX1_dayOfYear_eq rfl) (kin0 (p := 6) kRcX1_dayOfYear_eq rfl) (kin0 (p := 7) kRcX1_dayOfYear_eq rfl) rfl
theorem dX1_dayOfYear_8 : decode cX1_dayOfYear 8 = .ok (.iload_n 3, 1) := dz_29 (kin0 (p := 8) kRcX1_dayOfYear_eq rfl)
theorem dX1_dayOfYear_9 : decode cX1_dayOfYear 9 = .ok (.invokestatic 40, 3) := dz_184 (kin0 (p := 9) kRcX1_dayOfYear_eq rfl) (kin0 (p := 10) kRcX1_dayOfYear_eq rfl) (kin0 (p := 11) kRcX1_dayOfYear_eq rfl) rfl
theorem dX1_dayOfYear_12 : decode cX1_dayOfYear 12 = .ok (.aload_n 0, 1) := dz_42 (kin0 (p := 12) kRcX1_dayOfYear_eq rfl)
theorem dX1_dayOfYear_13 : decode cX1_dayOfYear 13 = .ok (.iload_n 1, 1) := dz_27 (kin0 (p := 13) kRcX1_dayOfYear_eq rfl)
theorem dX1_dayOfYear_14 : decode cX1_dayOfYear 14 = .ok (.iload_n 3, 1) := dz_29 (kin0 (p := 14) kRcX1_dayOfYear_eq rfl)
theorem dX1_dayOfYear_15 : decode cX1_dayOfYear 15 = .ok (.aload_n 0, 1) := dz_42 (kin0 (p := 15) kRcX1_dayOfYear_eq rfl)
theorem dX1_dayOfYear_16 : decode cX1_dayOfYear 16 = .ok (.getfield 13, 3) := dz_180 (kin0 (p := 16) kRcX1_dayOfYear_eq rfl) (kin0 (p := 17) kRcX1_dayOfYear_eq rfl) (kin0 (p := 18) kRcX1_dayOfYear_eq rfl) rfl
theorem dX1_dayOfYear_19 : decode cX1_dayOfYear 19 = .ok (.iload_n 2, 1) := dz_28 (kin0 (p := 19) kRcX1_dayOfYear_eq rfl)
theorem dX1_dayOfYear_20 : decode cX1_dayOfYear 20 = .ok (.iaload, 1) := dz_46 (kin0 (p := 20) kRcX1_dayOfYear_eq rfl)
theorem dX1_dayOfYear_21 : decode cX1_dayOfYear 21 = .ok (.invokevirtual 155, 3) := dz_182 (kin0 (p := 21) kRcX1_dayOfYear_eq rfl) (kin0 (p := 22) kRcX1_dayOfYear_eq rfl) (kin0 (p := 23) kRcX1_dayOfYear_eq rfl) rfl
theorem dX1_dayOfYear_24 : decode cX1_dayOfYear 24 = .ok (.aload_n 0, 1) := dz_42 (kin0 (p := 24) kRcX1_dayOfYear_eq rfl)
theorem dX1_dayOfYear_25 : decode cX1_dayOfYear 25 = .ok (.getfield 26, 3) := dz_180 (kin0 (p := 25) kRcX1_dayOfYear_eq rfl) (kin0 (p := 26) kRcX1_dayOfYear_eq rfl) (kin0 (p := 27) kRcX1_dayOfYear_eq rfl) rfl
theorem dX1_dayOfYear_28 : decode cX1_dayOfYear 28 = .ok (.iload_n 1, 1) := dz_27 (kin0 (p := 28) kRcX1_dayOfYear_eq rfl)
theorem dX1_dayOfYear_29 : decode cX1_dayOfYear 29 = .ok (.iaload, 1) := dz_46 (kin0 (p := 29) kRcX1_dayOfYear_eq rfl)
theorem dX1_dayOfYear_30 : decode cX1_dayOfYear 30 = .ok (.ireturn, 1) := dz_172 (kin0 (p := 30) kRcX1_dayOfYear_eq rfl)
def kCcX1_ofLeaf_0 : List Nat := [27, 184, 0, 40, 28, 3, 16, 7, 184, 0, 71, 42, 180, 0, 9, 27, 47, 66, 33, 184, 0, 81, 54, 5, 28, 170, 0, 0, 0, 0, 0, 84]
def kCcX1_ofLeaf_1 : List Nat := [0, 0, 0, 0, 0, 0, 0, 7, 0, 0, 0, 47, 0, 0, 0, 84, 0, 0, 0, 50, 0, 0, 0, 55, 0, 0, 0, 62, 0, 0, 0, 84]
def kCcX1_ofLeaf_2 : List Nat := [0, 0, 0, 72, 0, 0, 0, 78, 21, 5, 172, 33, 184, 0, 139, 172, 21, 5, 133, 184, 0, 142, 172, 21, 5, 133, 184, 0, 145, 184, 0, 92]
def kCcX1_ofLeaf_3 : List Nat := [172, 21, 5, 184, 0, 158, 172, 21, 5, 184, 0, 161, 172, 33, 184, 0, 77, 172]
def kRcX1_ofLeaf_4 : List Nat := []
def kRcX1_ofLeaf_3 : List Nat := kCcX1_ofLeaf_3 ++ kRcX1_ofLeaf_4
def kRcX1_ofLeaf_2 : List Nat := kCcX1_ofLeaf_2 ++ kRcX1_ofLeaf_3
def kRcX1_ofLeaf_1 : List Nat := kCcX1_ofLeaf_1 ++ kRcX1_ofLeaf_2
def kRcX1_ofLeaf_0 : List Nat := kCcX1_ofLeaf_0 ++ kRcX1_ofLeaf_1
theorem kRcX1_ofLeaf_eq : cX1_ofLeaf.data.toList.map UInt8.toNat = kRcX1_ofLeaf_0 := by decide +kernel
theorem katcX1_ofLeaf_0 (i : Nat) : (cX1_ofLeaf.data.toList.map UInt8.toNat)[0 + i]? = kRcX1_ofLeaf_0[i]? := by rw [kRcX1_ofLeaf_eq, Nat.zero_add]
theorem katcX1_ofLeaf_1 : ∀ i : Nat, (cX1_ofLeaf.data.toList.map UInt8.toNat)[32 + i]? = kRcX1_ofLeaf_1[i]? := kstep katcX1_ofLeaf_0 (C := kCcX1_ofLeaf_0) rfl rfl
theorem katcX1_ofLeaf_2 : ∀ i : Nat, (cX1_ofLeaf.data.toList.map UInt8.toNat)[64 + i]? = kRcX1_ofLeaf_2[i]? := kstep katcX1_ofLeaf_1 (C := kCcX1_ofLeaf_1) rfl rfl
theorem katcX1_ofLeaf_3 : ∀ i : Nat, (cX1_ofLeaf.data.toList.map UInt8.toNat)[96 + i]? = kRcX1_ofLeaf_3[i]? := kstep katcX1_ofLeaf_2 (C := kCcX1_ofLeaf_2) rfl rfl
theorem kBcX1_ofLeaf_0 {b : Nat} (p : Nat) (hp : Nat.ble 0 p = true) (h : kCcX1_ofLeaf_0[p - 0]? = some b) : kb cX1_ofLeaf p b := kin katcX1_ofLeaf_0 rfl hp h
theorem kBcX1_ofLeaf_1 {b : Nat} (p : Nat) (hp : Nat.ble 32 p = true) (h : kCcX1_ofLeaf_1[p - 32]? = some b) : kb cX1_ofLeaf p b := kin katcX1_ofLeaf_1 rfl hp h
theorem kBcX1_ofLeaf_2 {b : Nat} (p : Nat) (hp : Nat.ble 64 p = true) (h : kCcX1_ofLeaf_2[p - 64]? = some b) : kb cX1_ofLeaf p b := kin katcX1_ofLeaf_2 rfl hp h
theorem kBcX1_ofLeaf_3 {b : Nat} (p : Nat) (hp : Nat.ble 96 p = true) (h : kCcX1_ofLeaf_3[p - 96]? = some b) : kb cX1_ofLeaf p b := kin katcX1_ofLeaf_3 rfl hp h
theorem dX1_ofLeaf_0 : decode cX1_ofLeaf 0 = .ok (.iload_n 1, 1) := dz_27 (kBcX1_ofLeaf_0 0 rfl rfl)
theorem dX1_ofLeaf_1 : decode cX1_ofLeaf 1 = .ok (.invokestatic 40, 3) := dz_184 (kBcX1_ofLeaf_0 1 rfl rfl) (kBcX1_ofLeaf_0 2 rfl rfl) (kBcX1_ofLeaf_0 3 rfl rfl) rfl
theorem dX1_ofLeaf_4 : decode cX1_ofLeaf 4 = .ok (.iload_n 2, 1) := dz_28 (kBcX1_ofLeaf_0 4 rfl rfl)
theorem dX1_ofLeaf_5 : decode cX1_ofLeaf 5 = .ok (.iconst 0, 1) := dz_3 (kBcX1_ofLeaf_0 5 rfl rfl)
theorem dX1_ofLeaf_6 : decode cX1_ofLeaf 6 = .ok (.bipush 7, 2) := dz_16 (kBcX1_ofLeaf_0 6 rfl rfl) (kBcX1_ofLeaf_0 7 rfl rfl) rfl
theorem dX1_ofLeaf_8 : decode cX1_ofLeaf 8 = .ok (.invokestatic 71, 3) := dz_184 (kBcX1_ofLeaf_0 8 rfl rfl) (kBcX1_ofLeaf_0 9 rfl rfl) (kBcX1_ofLeaf_0 10 rfl rfl) rfl
theorem dX1_ofLeaf_11 : decode cX1_ofLeaf 11 = .ok (.aload_n 0, 1) := dz_42 (kBcX1_ofLeaf_0 11 rfl rfl)
theorem dX1_ofLeaf_12 : decode cX1_ofLeaf 12 = .ok (.getfield 9, 3) := dz_180 (kBcX1_ofLeaf_0 12 rfl rfl) (kBcX1_ofLeaf_0 13 rfl rfl) (kBcX1_ofLeaf_0 14 rfl rfl) rfl
theorem dX1_ofLeaf_15 : decode cX1_ofLeaf 15 = .ok (.iload_n 1, 1) := dz_27 (kBcX1_ofLeaf_0 15 rfl rfl)
theorem dX1_ofLeaf_16 : decode cX1_ofLeaf 16 = .ok (.laload, 1) := dz_47 (kBcX1_ofLeaf_0 16 rfl rfl)
theorem dX1_ofLeaf_17 : decode cX1_ofLeaf 17 = .ok (.lstore_n 3, 1) := dz_66 (kBcX1_ofLeaf_0 17 rfl rfl)
theorem dX1_ofLeaf_18 : decode cX1_ofLeaf 18 = .ok (.lload_n 3, 1) := dz_33 (kBcX1_ofLeaf_0 18 rfl rfl)
theorem dX1_ofLeaf_19 : decode cX1_ofLeaf 19 = .ok (.invokestatic 81, 3) := dz_184 (kBcX1_ofLeaf_0 19 rfl rfl) (kBcX1_ofLeaf_0 20 rfl rfl) (kBcX1_ofLeaf_0 21 rfl rfl) rfl
theorem dX1_ofLeaf_22 : decode cX1_ofLeaf 22 = .ok (.istore 5, 2) := dz_54 (kBcX1_ofLeaf_0 22 rfl rfl) (kBcX1_ofLeaf_0 23 rfl rfl)
theorem dX1_ofLeaf_24 : decode cX1_ofLeaf 24 = .ok (.iload_n 2, 1) := dz_28 (kBcX1_ofLeaf_0 24 rfl rfl)
theorem dX1_ofLeaf_25 : decode cX1_ofLeaf 25 = .ok (.tableswitch 84 0 7 #[47, 84, 50, 55, 62, 84, 72, 78], 47) := by decide +kernel
theorem dX1_ofLeaf_72 : decode cX1_ofLeaf 72 = .ok (.iload 5, 2) := dz_21 (kBcX1_ofLeaf_2 72 rfl rfl) (kBcX1_ofLeaf_2 73 rfl rfl)
theorem dX1_ofLeaf_74 : decode cX1_ofLeaf 74 = .ok (.ireturn, 1) := dz_172 (kBcX1_ofLeaf_2 74 rfl rfl)
theorem dX1_ofLeaf_75 : decode cX1_ofLeaf 75 = .ok (.lload_n 3, 1) := dz_33 (kBcX1_ofLeaf_2 75 rfl rfl)
theorem dX1_ofLeaf_76 : decode cX1_ofLeaf 76 = .ok (.invokestatic 139, 3) := dz_184 (kBcX1_ofLeaf_2 76 rfl rfl) (kBcX1_ofLeaf_2 77 rfl rfl) (kBcX1_ofLeaf_2 78 rfl rfl) rfl
theorem dX1_ofLeaf_79 : decode cX1_ofLeaf 79 = .ok (.ireturn, 1) := dz_172 (kBcX1_ofLeaf_2 79 rfl rfl)
theorem dX1_ofLeaf_80 : decode cX1_ofLeaf 80 = .ok (.iload 5, 2) := dz_21 (kBcX1_ofLeaf_2 80 rfl rfl) (kBcX1_ofLeaf_2 81 rfl rfl)
theorem dX1_ofLeaf_82 : decode cX1_ofLeaf 82 = .ok (.i2l, 1) := dz_133 (kBcX1_ofLeaf_2 82 rfl rfl)
theorem dX1_ofLeaf_83 : decode cX1_ofLeaf 83 = .ok (.invokestatic 142, 3) := dz_184 (kBcX1_ofLeaf_2 83 rfl rfl) (kBcX1_ofLeaf_2 84 rfl rfl) (kBcX1_ofLeaf_2 85 rfl rfl) rfl
theorem dX1_ofLeaf_86 : decode cX1_ofLeaf 86 = .ok (.ireturn, 1) := dz_172 (kBcX1_ofLeaf_2 86 rfl rfl)
theorem dX1_ofLeaf_87 : decode cX1_ofLeaf 87 = .ok (.iload 5, 2) := dz_21 (kBcX1_ofLeaf_2 87 rfl rfl) (kBcX1_ofLeaf_2 88 rfl rfl)
theorem dX1_ofLeaf_89 : decode cX1_ofLeaf 89 = .ok (.i2l, 1) := dz_133 (kBcX1_ofLeaf_2 89 rfl rfl)
theorem dX1_ofLeaf_90 : decode cX1_ofLeaf 90 = .ok (.invokestatic 145, 3) := dz_184 (kBcX1_ofLeaf_2 90 rfl rfl) (kBcX1_ofLeaf_2 91 rfl rfl) (kBcX1_ofLeaf_2 92 rfl rfl) rfl
theorem dX1_ofLeaf_93 : decode cX1_ofLeaf 93 = .ok (.invokestatic 92, 3) := dz_184 (kBcX1_ofLeaf_2 93 rfl rfl) (kBcX1_ofLeaf_2 94 rfl rfl) (kBcX1_ofLeaf_2 95 rfl rfl) rfl
theorem dX1_ofLeaf_96 : decode cX1_ofLeaf 96 = .ok (.ireturn, 1) := dz_172 (kBcX1_ofLeaf_3 96 rfl rfl)
theorem dX1_ofLeaf_97 : decode cX1_ofLeaf 97 = .ok (.iload 5, 2) := dz_21 (kBcX1_ofLeaf_3 97 rfl rfl) (kBcX1_ofLeaf_3 98 rfl rfl)
theorem dX1_ofLeaf_99 : decode cX1_ofLeaf 99 = .ok (.invokestatic 158, 3) := dz_184 (kBcX1_ofLeaf_3 99 rfl rfl) (kBcX1_ofLeaf_3 100 rfl rfl) (kBcX1_ofLeaf_3 101 rfl rfl) rfl
theorem dX1_ofLeaf_102 : decode cX1_ofLeaf 102 = .ok (.ireturn, 1) := dz_172 (kBcX1_ofLeaf_3 102 rfl rfl)
theorem dX1_ofLeaf_103 : decode cX1_ofLeaf 103 = .ok (.iload 5, 2) := dz_21 (kBcX1_ofLeaf_3 103 rfl rfl) (kBcX1_ofLeaf_3 104 rfl rfl)
theorem dX1_ofLeaf_105 : decode cX1_ofLeaf 105 = .ok (.invokestatic 161, 3) := dz_184 (kBcX1_ofLeaf_3 105 rfl rfl) (kBcX1_ofLeaf_3 106 rfl rfl) (kBcX1_ofLeaf_3 107 rfl rfl) rfl
theorem dX1_ofLeaf_108 : decode cX1_ofLeaf 108 = .ok (.ireturn, 1) := dz_172 (kBcX1_ofLeaf_3 108 rfl rfl)
theorem dX1_ofLeaf_109 : decode cX1_ofLeaf 109 = .ok (.lload_n 3, 1) := dz_33 (kBcX1_ofLeaf_3 109 rfl rfl)
theorem dX1_ofLeaf_110 : decode cX1_ofLeaf 110 = .ok (.invokestatic 77, 3) := dz_184 (kBcX1_ofLeaf_3 110 rfl rfl) (kBcX1_ofLeaf_3 111 rfl rfl) (kBcX1_ofLeaf_3 112 rfl rfl) rfl
theorem dX1_ofLeaf_113 : decode cX1_ofLeaf 113 = .ok (.ireturn, 1) := dz_172 (kBcX1_ofLeaf_3 113 rfl rfl)
def kCcX1_count_0 : List Nat := [27, 184, 0, 40, 42, 42, 180, 0, 9, 27, 47, 182, 0, 164, 176]
theorem kRcX1_count_eq : cX1_count.data.toList.map UInt8.toNat = kCcX1_count_0 := by decide +kernel
theorem dX1_count_0 : decode cX1_count 0 = .ok (.iload_n 1, 1) := dz_27 (kin0 (p := 0) kRcX1_count_eq rfl)
theorem dX1_count_1 : decode cX1_count 1 = .ok (.invokestatic 40, 3) := dz_184 (kin0 (p := 1) kRcX1_count_eq rfl) (kin0 (p := 2) kRcX1_count_eq rfl) (kin0 (p := 3) kRcX1_count_eq rfl) rfl
theorem dX1_count_4 : decode cX1_count 4 = .ok (.aload_n 0, 1) := dz_42 (kin0 (p := 4) kRcX1_count_eq rfl)
theorem dX1_count_5 : decode cX1_count 5 = .ok (.aload_n 0, 1) := dz_42 (kin0 (p := 5) kRcX1_count_eq rfl)
theorem dX1_count_6 : decode cX1_count 6 = .ok (.getfield 9, 3) := dz_180 (kin0 (p := 6) kRcX1_count_eq rfl) (kin0 (p := 7) kRcX1_count_eq rfl) (kin0 (p := 8) kRcX1_count_eq rfl) rfl
theorem dX1_count_9 : decode cX1_count 9 = .ok (.iload_n 1, 1) := dz_27 (kin0 (p := 9) kRcX1_count_eq rfl)
theorem dX1_count_10 : decode cX1_count 10 = .ok (.laload, 1) := dz_47 (kin0 (p := 10) kRcX1_count_eq rfl)
theorem dX1_count_11 : decode cX1_count 11 = .ok (.invokevirtual 164, 3) := dz_182 (kin0 (p := 11) kRcX1_count_eq rfl) (kin0 (p := 12) kRcX1_count_eq rfl) (kin0 (p := 13) kRcX1_count_eq rfl) rfl
theorem dX1_count_14 : decode cX1_count 14 = .ok (.areturn, 1) := dz_176 (kin0 (p := 14) kRcX1_count_eq rfl)
def kCcX1_hasDay_0 : List Nat := [27, 184, 0, 40, 42, 180, 0, 9, 27, 47, 28, 184, 0, 128, 172]
theorem kRcX1_hasDay_eq : cX1_hasDay.data.toList.map UInt8.toNat = kCcX1_hasDay_0 := by decide +kernel
theorem dX1_hasDay_0 : decode cX1_hasDay 0 = .ok (.iload_n 1, 1) := dz_27 (kin0 (p := 0) kRcX1_hasDay_eq rfl)
theorem dX1_hasDay_1 : decode cX1_hasDay 1 = .ok (.invokestatic 40, 3) := dz_184 (kin0 (p := 1) kRcX1_hasDay_eq rfl) (kin0 (p := 2) kRcX1_hasDay_eq rfl) (kin0 (p := 3) kRcX1_hasDay_eq rfl) rfl
theorem dX1_hasDay_4 : decode cX1_hasDay 4 = .ok (.aload_n 0, 1) := dz_42 (kin0 (p := 4) kRcX1_hasDay_eq rfl)
theorem dX1_hasDay_5 : decode cX1_hasDay 5 = .ok (.getfield 9, 3) := dz_180 (kin0 (p := 5) kRcX1_hasDay_eq rfl) (kin0 (p := 6) kRcX1_hasDay_eq rfl) (kin0 (p := 7) kRcX1_hasDay_eq rfl) rfl
theorem dX1_hasDay_8 : decode cX1_hasDay 8 = .ok (.iload_n 1, 1) := dz_27 (kin0 (p := 8) kRcX1_hasDay_eq rfl)
theorem dX1_hasDay_9 : decode cX1_hasDay 9 = .ok (.laload, 1) := dz_47 (kin0 (p := 9) kRcX1_hasDay_eq rfl)
theorem dX1_hasDay_10 : decode cX1_hasDay 10 = .ok (.iload_n 2, 1) := dz_28 (kin0 (p := 10) kRcX1_hasDay_eq rfl)
theorem dX1_hasDay_11 : decode cX1_hasDay 11 = .ok (.invokestatic 128, 3) := dz_184 (kin0 (p := 11) kRcX1_hasDay_eq rfl) (kin0 (p := 12) kRcX1_hasDay_eq rfl) (kin0 (p := 13) kRcX1_hasDay_eq rfl) rfl
theorem dX1_hasDay_14 : decode cX1_hasDay 14 = .ok (.ireturn, 1) := dz_172 (kin0 (p := 14) kRcX1_hasDay_eq rfl)
def kCcX1_leafOrder_0 : List Nat := [27, 184, 0, 40, 28, 184, 0, 40, 29, 3, 5, 184, 0, 71, 42, 180, 0, 9, 27, 47, 42, 180, 0, 9, 28, 47, 29, 184, 0, 168, 172]
theorem kRcX1_leafOrder_eq : cX1_leafOrder.data.toList.map UInt8.toNat = kCcX1_leafOrder_0 := by decide +kernel
theorem dX1_leafOrder_0 : decode cX1_leafOrder 0 = .ok (.iload_n 1, 1) := dz_27 (kin0 (p := 0) kRcX1_leafOrder_eq rfl)
theorem dX1_leafOrder_1 : decode cX1_leafOrder 1 = .ok (.invokestatic 40, 3) := dz_184 (kin0 (p := 1) kRcX1_leafOrder_eq rfl) (kin0 (p := 2) kRcX1_leafOrder_eq rfl) (kin0 (p := 3) kRcX1_leafOrder_eq rfl) rfl
theorem dX1_leafOrder_4 : decode cX1_leafOrder 4 = .ok (.iload_n 2, 1) := dz_28 (kin0 (p := 4) kRcX1_leafOrder_eq rfl)
theorem dX1_leafOrder_5 : decode cX1_leafOrder 5 = .ok (.invokestatic 40, 3) := dz_184 (kin0 (p := 5) kRcX1_leafOrder_eq rfl) (kin0 (p := 6) kRcX1_leafOrder_eq rfl) (kin0 (p := 7) kRcX1_leafOrder_eq rfl) rfl
theorem dX1_leafOrder_8 : decode cX1_leafOrder 8 = .ok (.iload_n 3, 1) := dz_29 (kin0 (p := 8) kRcX1_leafOrder_eq rfl)
theorem dX1_leafOrder_9 : decode cX1_leafOrder 9 = .ok (.iconst 0, 1) := dz_3 (kin0 (p := 9) kRcX1_leafOrder_eq rfl)
theorem dX1_leafOrder_10 : decode cX1_leafOrder 10 = .ok (.iconst 2, 1) := dz_5 (kin0 (p := 10) kRcX1_leafOrder_eq rfl)
theorem dX1_leafOrder_11 : decode cX1_leafOrder 11 = .ok (.invokestatic 71, 3) := dz_184 (kin0 (p := 11) kRcX1_leafOrder_eq rfl) (kin0 (p := 12) kRcX1_leafOrder_eq rfl) (kin0 (p := 13) kRcX1_leafOrder_eq rfl) rfl
theorem dX1_leafOrder_14 : decode cX1_leafOrder 14 = .ok (.aload_n 0, 1) := dz_42 (kin0 (p := 14) kRcX1_leafOrder_eq rfl)
theorem dX1_leafOrder_15 : decode cX1_leafOrder 15 = .ok (.getfield 9, 3) := dz_180 (kin0 (p := 15) kRcX1_leafOrder_eq rfl) (kin0 (p := 16) kRcX1_leafOrder_eq rfl) (kin0 (p := 17) kRcX1_leafOrder_eq rfl) rfl
theorem dX1_leafOrder_18 : decode cX1_leafOrder 18 = .ok (.iload_n 1, 1) := dz_27 (kin0 (p := 18) kRcX1_leafOrder_eq rfl)
theorem dX1_leafOrder_19 : decode cX1_leafOrder 19 = .ok (.laload, 1) := dz_47 (kin0 (p := 19) kRcX1_leafOrder_eq rfl)
theorem dX1_leafOrder_20 : decode cX1_leafOrder 20 = .ok (.aload_n 0, 1) := dz_42 (kin0 (p := 20) kRcX1_leafOrder_eq rfl)
theorem dX1_leafOrder_21 : decode cX1_leafOrder 21 = .ok (.getfield 9, 3) := dz_180 (kin0 (p := 21) kRcX1_leafOrder_eq rfl) (kin0 (p := 22) kRcX1_leafOrder_eq rfl) (kin0 (p := 23) kRcX1_leafOrder_eq rfl) rfl
theorem dX1_leafOrder_24 : decode cX1_leafOrder 24 = .ok (.iload_n 2, 1) := dz_28 (kin0 (p := 24) kRcX1_leafOrder_eq rfl)
theorem dX1_leafOrder_25 : decode cX1_leafOrder 25 = .ok (.laload, 1) := dz_47 (kin0 (p := 25) kRcX1_leafOrder_eq rfl)
theorem dX1_leafOrder_26 : decode cX1_leafOrder 26 = .ok (.iload_n 3, 1) := dz_29 (kin0 (p := 26) kRcX1_leafOrder_eq rfl)
theorem dX1_leafOrder_27 : decode cX1_leafOrder 27 = .ok (.invokestatic 168, 3) := dz_184 (kin0 (p := 27) kRcX1_leafOrder_eq rfl) (kin0 (p := 28) kRcX1_leafOrder_eq rfl) (kin0 (p := 29) kRcX1_leafOrder_eq rfl) rfl
theorem dX1_leafOrder_30 : decode cX1_leafOrder 30 = .ok (.ireturn, 1) := dz_172 (kin0 (p := 30) kRcX1_leafOrder_eq rfl)
def kCcX1_isLeaf_0 : List Nat := [27, 184, 0, 40, 29, 184, 0, 40, 28, 3, 7, 184, 0, 71, 28, 154, 0, 23, 42, 180, 0, 9, 27, 47, 42, 180, 0, 9, 29, 47, 148, 154]
def kCcX1_isLeaf_1 : List Nat := [0, 7, 4, 167, 0, 4, 3, 172]
def kRcX1_isLeaf_2 : List Nat := []
def kRcX1_isLeaf_1 : List Nat := kCcX1_isLeaf_1 ++ kRcX1_isLeaf_2
def kRcX1_isLeaf_0 : List Nat := kCcX1_isLeaf_0 ++ kRcX1_isLeaf_1
theorem kRcX1_isLeaf_eq : cX1_isLeaf.data.toList.map UInt8.toNat = kRcX1_isLeaf_0 := by decide +kernel
theorem katcX1_isLeaf_0 (i : Nat) : (cX1_isLeaf.data.toList.map UInt8.toNat)[0 + i]? = kRcX1_isLeaf_0[i]? := by rw [kRcX1_isLeaf_eq, Nat.zero_add]
theorem katcX1_isLeaf_1 : ∀ i : Nat, (cX1_isLeaf.data.toList.map UInt8.toNat)[32 + i]? = kRcX1_isLeaf_1[i]? := kstep katcX1_isLeaf_0 (C := kCcX1_isLeaf_0) rfl rfl
theorem kBcX1_isLeaf_0 {b : Nat} (p : Nat) (hp : Nat.ble 0 p = true) (h : kCcX1_isLeaf_0[p - 0]? = some b) : kb cX1_isLeaf p b := kin katcX1_isLeaf_0 rfl hp h
theorem kBcX1_isLeaf_1 {b : Nat} (p : Nat) (hp : Nat.ble 32 p = true) (h : kCcX1_isLeaf_1[p - 32]? = some b) : kb cX1_isLeaf p b := kin katcX1_isLeaf_1 rfl hp h
theorem dX1_isLeaf_0 : decode cX1_isLeaf 0 = .ok (.iload_n 1, 1) := dz_27 (kBcX1_isLeaf_0 0 rfl rfl)
theorem dX1_isLeaf_1 : decode cX1_isLeaf 1 = .ok (.invokestatic 40, 3) := dz_184 (kBcX1_isLeaf_0 1 rfl rfl) (kBcX1_isLeaf_0 2 rfl rfl) (kBcX1_isLeaf_0 3 rfl rfl) rfl
theorem dX1_isLeaf_4 : decode cX1_isLeaf 4 = .ok (.iload_n 3, 1) := dz_29 (kBcX1_isLeaf_0 4 rfl rfl)
theorem dX1_isLeaf_5 : decode cX1_isLeaf 5 = .ok (.invokestatic 40, 3) := dz_184 (kBcX1_isLeaf_0 5 rfl rfl) (kBcX1_isLeaf_0 6 rfl rfl) (kBcX1_isLeaf_0 7 rfl rfl) rfl
theorem dX1_isLeaf_8 : decode cX1_isLeaf 8 = .ok (.iload_n 2, 1) := dz_28 (kBcX1_isLeaf_0 8 rfl rfl)
theorem dX1_isLeaf_9 : decode cX1_isLeaf 9 = .ok (.iconst 0, 1) := dz_3 (kBcX1_isLeaf_0 9 rfl rfl)
theorem dX1_isLeaf_10 : decode cX1_isLeaf 10 = .ok (.iconst 4, 1) := dz_7 (kBcX1_isLeaf_0 10 rfl rfl)
theorem dX1_isLeaf_11 : decode cX1_isLeaf 11 = .ok (.invokestatic 71, 3) := dz_184 (kBcX1_isLeaf_0 11 rfl rfl) (kBcX1_isLeaf_0 12 rfl rfl) (kBcX1_isLeaf_0 13 rfl rfl) rfl
theorem dX1_isLeaf_14 : decode cX1_isLeaf 14 = .ok (.iload_n 2, 1) := dz_28 (kBcX1_isLeaf_0 14 rfl rfl)
theorem dX1_isLeaf_15 : decode cX1_isLeaf 15 = .ok (.ifCond .ne 23, 3) := dz_154 (kBcX1_isLeaf_0 15 rfl rfl) (kBcX1_isLeaf_0 16 rfl rfl) (kBcX1_isLeaf_0 17 rfl rfl) rfl
theorem dX1_isLeaf_18 : decode cX1_isLeaf 18 = .ok (.aload_n 0, 1) := dz_42 (kBcX1_isLeaf_0 18 rfl rfl)
theorem dX1_isLeaf_19 : decode cX1_isLeaf 19 = .ok (.getfield 9, 3) := dz_180 (kBcX1_isLeaf_0 19 rfl rfl) (kBcX1_isLeaf_0 20 rfl rfl) (kBcX1_isLeaf_0 21 rfl rfl) rfl
theorem dX1_isLeaf_22 : decode cX1_isLeaf 22 = .ok (.iload_n 1, 1) := dz_27 (kBcX1_isLeaf_0 22 rfl rfl)
theorem dX1_isLeaf_23 : decode cX1_isLeaf 23 = .ok (.laload, 1) := dz_47 (kBcX1_isLeaf_0 23 rfl rfl)
theorem dX1_isLeaf_24 : decode cX1_isLeaf 24 = .ok (.aload_n 0, 1) := dz_42 (kBcX1_isLeaf_0 24 rfl rfl)
theorem dX1_isLeaf_25 : decode cX1_isLeaf 25 = .ok (.getfield 9, 3) := dz_180 (kBcX1_isLeaf_0 25 rfl rfl) (kBcX1_isLeaf_0 26 rfl rfl) (kBcX1_isLeaf_0 27 rfl rfl) rfl
theorem dX1_isLeaf_28 : decode cX1_isLeaf 28 = .ok (.iload_n 3, 1) := dz_29 (kBcX1_isLeaf_0 28 rfl rfl)
theorem dX1_isLeaf_29 : decode cX1_isLeaf 29 = .ok (.laload, 1) := dz_47 (kBcX1_isLeaf_0 29 rfl rfl)
theorem dX1_isLeaf_30 : decode cX1_isLeaf 30 = .ok (.lcmp, 1) := dz_148 (kBcX1_isLeaf_0 30 rfl rfl)
theorem dX1_isLeaf_31 : decode cX1_isLeaf 31 = .ok (.ifCond .ne 7, 3) := dz_154 (kBcX1_isLeaf_0 31 rfl rfl) (kBcX1_isLeaf_1 32 rfl rfl) (kBcX1_isLeaf_1 33 rfl rfl) rfl
theorem dX1_isLeaf_34 : decode cX1_isLeaf 34 = .ok (.iconst 1, 1) := dz_4 (kBcX1_isLeaf_1 34 rfl rfl)
theorem dX1_isLeaf_35 : decode cX1_isLeaf 35 = .ok (.goto 4, 3) := dz_167 (kBcX1_isLeaf_1 35 rfl rfl) (kBcX1_isLeaf_1 36 rfl rfl) (kBcX1_isLeaf_1 37 rfl rfl) rfl
theorem dX1_isLeaf_38 : decode cX1_isLeaf 38 = .ok (.iconst 0, 1) := dz_3 (kBcX1_isLeaf_1 38 rfl rfl)
theorem dX1_isLeaf_39 : decode cX1_isLeaf 39 = .ok (.ireturn, 1) := dz_172 (kBcX1_isLeaf_1 39 rfl rfl)
def kCcX1_leafTo_0 : List Nat := [27, 184, 0, 40, 28, 184, 0, 40, 29, 3, 7, 184, 0, 71, 42, 42, 27, 28, 29, 182, 0, 172, 182, 0, 164, 176]
theorem kRcX1_leafTo_eq : cX1_leafTo.data.toList.map UInt8.toNat = kCcX1_leafTo_0 := by decide +kernel
theorem dX1_leafTo_0 : decode cX1_leafTo 0 = .ok (.iload_n 1, 1) := dz_27 (kin0 (p := 0) kRcX1_leafTo_eq rfl)
theorem dX1_leafTo_1 : decode cX1_leafTo 1 = .ok (.invokestatic 40, 3) := dz_184 (kin0 (p := 1) kRcX1_leafTo_eq rfl) (kin0 (p := 2) kRcX1_leafTo_eq rfl) (kin0 (p := 3) kRcX1_leafTo_eq rfl) rfl
theorem dX1_leafTo_4 : decode cX1_leafTo 4 = .ok (.iload_n 2, 1) := dz_28 (kin0 (p := 4) kRcX1_leafTo_eq rfl)
theorem dX1_leafTo_5 : decode cX1_leafTo 5 = .ok (.invokestatic 40, 3) := dz_184 (kin0 (p := 5) kRcX1_leafTo_eq rfl) (kin0 (p := 6) kRcX1_leafTo_eq rfl) (kin0 (p := 7) kRcX1_leafTo_eq rfl) rfl
theorem dX1_leafTo_8 : decode cX1_leafTo 8 = .ok (.iload_n 3, 1) := dz_29 (kin0 (p := 8) kRcX1_leafTo_eq rfl)
theorem dX1_leafTo_9 : decode cX1_leafTo 9 = .ok (.iconst 0, 1) := dz_3 (kin0 (p := 9) kRcX1_leafTo_eq rfl)
theorem dX1_leafTo_10 : decode cX1_leafTo 10 = .ok (.iconst 4, 1) := dz_7 (kin0 (p := 10) kRcX1_leafTo_eq rfl)
theorem dX1_leafTo_11 : decode cX1_leafTo 11 = .ok (.invokestatic 71, 3) := dz_184 (kin0 (p := 11) kRcX1_leafTo_eq rfl) (kin0 (p := 12) kRcX1_leafTo_eq rfl) (kin0 (p := 13) kRcX1_leafTo_eq rfl) rfl
theorem dX1_leafTo_14 : decode cX1_leafTo 14 = .ok (.aload_n 0, 1) := dz_42 (kin0 (p := 14) kRcX1_leafTo_eq rfl)
theorem dX1_leafTo_15 : decode cX1_leafTo 15 = .ok (.aload_n 0, 1) := dz_42 (kin0 (p := 15) kRcX1_leafTo_eq rfl)
theorem dX1_leafTo_16 : decode cX1_leafTo 16 = .ok (.iload_n 1, 1) := dz_27 (kin0 (p := 16) kRcX1_leafTo_eq rfl)
theorem dX1_leafTo_17 : decode cX1_leafTo 17 = .ok (.iload_n 2, 1) := dz_28 (kin0 (p := 17) kRcX1_leafTo_eq rfl)
theorem dX1_leafTo_18 : decode cX1_leafTo 18 = .ok (.iload_n 3, 1) := dz_29 (kin0 (p := 18) kRcX1_leafTo_eq rfl)
theorem dX1_leafTo_19 : decode cX1_leafTo 19 = .ok (.invokevirtual 172, 3) := dz_182 (kin0 (p := 19) kRcX1_leafTo_eq rfl) (kin0 (p := 20) kRcX1_leafTo_eq rfl) (kin0 (p := 21) kRcX1_leafTo_eq rfl) rfl
theorem dX1_leafTo_22 : decode cX1_leafTo 22 = .ok (.invokevirtual 164, 3) := dz_182 (kin0 (p := 22) kRcX1_leafTo_eq rfl) (kin0 (p := 23) kRcX1_leafTo_eq rfl) (kin0 (p := 24) kRcX1_leafTo_eq rfl) rfl
theorem dX1_leafTo_25 : decode cX1_leafTo 25 = .ok (.areturn, 1) := dz_176 (kin0 (p := 25) kRcX1_leafTo_eq rfl)
def kCcX1_ofYear_0 : List Nat := [27, 184, 0, 40, 28, 3, 7, 184, 0, 71, 42, 180, 0, 13, 27, 46, 62, 28, 170, 0, 0, 0, 0, 52, 0, 0, 0, 0, 0, 0, 0, 3]
def kCcX1_ofYear_1 : List Nat := [0, 0, 0, 30, 0, 0, 0, 32, 0, 0, 0, 41, 0, 0, 0, 47, 29, 172, 29, 133, 184, 0, 145, 184, 0, 92, 172, 29, 133, 184, 0, 142]
def kCcX1_ofYear_2 : List Nat := [172, 29, 184, 0, 158, 172, 29, 184, 0, 161, 172]
def kRcX1_ofYear_3 : List Nat := []
def kRcX1_ofYear_2 : List Nat := kCcX1_ofYear_2 ++ kRcX1_ofYear_3
def kRcX1_ofYear_1 : List Nat := kCcX1_ofYear_1 ++ kRcX1_ofYear_2
def kRcX1_ofYear_0 : List Nat := kCcX1_ofYear_0 ++ kRcX1_ofYear_1
theorem kRcX1_ofYear_eq : cX1_ofYear.data.toList.map UInt8.toNat = kRcX1_ofYear_0 := by decide +kernel
theorem katcX1_ofYear_0 (i : Nat) : (cX1_ofYear.data.toList.map UInt8.toNat)[0 + i]? = kRcX1_ofYear_0[i]? := by rw [kRcX1_ofYear_eq, Nat.zero_add]
theorem katcX1_ofYear_1 : ∀ i : Nat, (cX1_ofYear.data.toList.map UInt8.toNat)[32 + i]? = kRcX1_ofYear_1[i]? := kstep katcX1_ofYear_0 (C := kCcX1_ofYear_0) rfl rfl
theorem katcX1_ofYear_2 : ∀ i : Nat, (cX1_ofYear.data.toList.map UInt8.toNat)[64 + i]? = kRcX1_ofYear_2[i]? := kstep katcX1_ofYear_1 (C := kCcX1_ofYear_1) rfl rfl
theorem kBcX1_ofYear_0 {b : Nat} (p : Nat) (hp : Nat.ble 0 p = true) (h : kCcX1_ofYear_0[p - 0]? = some b) : kb cX1_ofYear p b := kin katcX1_ofYear_0 rfl hp h
theorem kBcX1_ofYear_1 {b : Nat} (p : Nat) (hp : Nat.ble 32 p = true) (h : kCcX1_ofYear_1[p - 32]? = some b) : kb cX1_ofYear p b := kin katcX1_ofYear_1 rfl hp h
theorem kBcX1_ofYear_2 {b : Nat} (p : Nat) (hp : Nat.ble 64 p = true) (h : kCcX1_ofYear_2[p - 64]? = some b) : kb cX1_ofYear p b := kin katcX1_ofYear_2 rfl hp h
theorem dX1_ofYear_0 : decode cX1_ofYear 0 = .ok (.iload_n 1, 1) := dz_27 (kBcX1_ofYear_0 0 rfl rfl)
theorem dX1_ofYear_1 : decode cX1_ofYear 1 = .ok (.invokestatic 40, 3) := dz_184 (kBcX1_ofYear_0 1 rfl rfl) (kBcX1_ofYear_0 2 rfl rfl) (kBcX1_ofYear_0 3 rfl rfl) rfl
theorem dX1_ofYear_4 : decode cX1_ofYear 4 = .ok (.iload_n 2, 1) := dz_28 (kBcX1_ofYear_0 4 rfl rfl)
theorem dX1_ofYear_5 : decode cX1_ofYear 5 = .ok (.iconst 0, 1) := dz_3 (kBcX1_ofYear_0 5 rfl rfl)
theorem dX1_ofYear_6 : decode cX1_ofYear 6 = .ok (.iconst 4, 1) := dz_7 (kBcX1_ofYear_0 6 rfl rfl)
theorem dX1_ofYear_7 : decode cX1_ofYear 7 = .ok (.invokestatic 71, 3) := dz_184 (kBcX1_ofYear_0 7 rfl rfl) (kBcX1_ofYear_0 8 rfl rfl) (kBcX1_ofYear_0 9 rfl rfl) rfl
theorem dX1_ofYear_10 : decode cX1_ofYear 10 = .ok (.aload_n 0, 1) := dz_42 (kBcX1_ofYear_0 10 rfl rfl)
theorem dX1_ofYear_11 : decode cX1_ofYear 11 = .ok (.getfield 13, 3) := dz_180 (kBcX1_ofYear_0 11 rfl rfl) (kBcX1_ofYear_0 12 rfl rfl) (kBcX1_ofYear_0 13 rfl rfl) rfl
theorem dX1_ofYear_14 : decode cX1_ofYear 14 = .ok (.iload_n 1, 1) := dz_27 (kBcX1_ofYear_0 14 rfl rfl)
theorem dX1_ofYear_15 : decode cX1_ofYear 15 = .ok (.iaload, 1) := dz_46 (kBcX1_ofYear_0 15 rfl rfl)
theorem dX1_ofYear_16 : decode cX1_ofYear 16 = .ok (.istore_n 3, 1) := dz_62 (kBcX1_ofYear_0 16 rfl rfl)
theorem dX1_ofYear_17 : decode cX1_ofYear 17 = .ok (.iload_n 2, 1) := dz_28 (kBcX1_ofYear_0 17 rfl rfl)
theorem dX1_ofYear_18 : decode cX1_ofYear 18 = .ok (.tableswitch 52 0 3 #[30, 32, 41, 47], 30) := by decide +kernel
theorem dX1_ofYear_48 : decode cX1_ofYear 48 = .ok (.iload_n 3, 1) := dz_29 (kBcX1_ofYear_1 48 rfl rfl)
theorem dX1_ofYear_49 : decode cX1_ofYear 49 = .ok (.ireturn, 1) := dz_172 (kBcX1_ofYear_1 49 rfl rfl)
theorem dX1_ofYear_50 : decode cX1_ofYear 50 = .ok (.iload_n 3, 1) := dz_29 (kBcX1_ofYear_1 50 rfl rfl)
theorem dX1_ofYear_51 : decode cX1_ofYear 51 = .ok (.i2l, 1) := dz_133 (kBcX1_ofYear_1 51 rfl rfl)
theorem dX1_ofYear_52 : decode cX1_ofYear 52 = .ok (.invokestatic 145, 3) := dz_184 (kBcX1_ofYear_1 52 rfl rfl) (kBcX1_ofYear_1 53 rfl rfl) (kBcX1_ofYear_1 54 rfl rfl) rfl
theorem dX1_ofYear_55 : decode cX1_ofYear 55 = .ok (.invokestatic 92, 3) := dz_184 (kBcX1_ofYear_1 55 rfl rfl) (kBcX1_ofYear_1 56 rfl rfl) (kBcX1_ofYear_1 57 rfl rfl) rfl
theorem dX1_ofYear_58 : decode cX1_ofYear 58 = .ok (.ireturn, 1) := dz_172 (kBcX1_ofYear_1 58 rfl rfl)
theorem dX1_ofYear_59 : decode cX1_ofYear 59 = .ok (.iload_n 3, 1) := dz_29 (kBcX1_ofYear_1 59 rfl rfl)
theorem dX1_ofYear_60 : decode cX1_ofYear 60 = .ok (.i2l, 1) := dz_133 (kBcX1_ofYear_1 60 rfl rfl)
theorem dX1_ofYear_61 : decode cX1_ofYear 61 = .ok (.invokestatic 142, 3) := dz_184 (kBcX1_ofYear_1 61 rfl rfl) (kBcX1_ofYear_1 62 rfl rfl) (kBcX1_ofYear_1 63 rfl rfl) rfl
theorem dX1_ofYear_64 : decode cX1_ofYear 64 = .ok (.ireturn, 1) := dz_172 (kBcX1_ofYear_2 64 rfl rfl)
theorem dX1_ofYear_65 : decode cX1_ofYear 65 = .ok (.iload_n 3, 1) := dz_29 (kBcX1_ofYear_2 65 rfl rfl)
theorem dX1_ofYear_66 : decode cX1_ofYear 66 = .ok (.invokestatic 158, 3) := dz_184 (kBcX1_ofYear_2 66 rfl rfl) (kBcX1_ofYear_2 67 rfl rfl) (kBcX1_ofYear_2 68 rfl rfl) rfl
theorem dX1_ofYear_69 : decode cX1_ofYear 69 = .ok (.ireturn, 1) := dz_172 (kBcX1_ofYear_2 69 rfl rfl)
theorem dX1_ofYear_70 : decode cX1_ofYear 70 = .ok (.iload_n 3, 1) := dz_29 (kBcX1_ofYear_2 70 rfl rfl)
theorem dX1_ofYear_71 : decode cX1_ofYear 71 = .ok (.invokestatic 161, 3) := dz_184 (kBcX1_ofYear_2 71 rfl rfl) (kBcX1_ofYear_2 72 rfl rfl) (kBcX1_ofYear_2 73 rfl rfl) rfl
theorem dX1_ofYear_74 : decode cX1_ofYear 74 = .ok (.ireturn, 1) := dz_172 (kBcX1_ofYear_2 74 rfl rfl)
def kCcX1_isLeap_0 : List Nat := [27, 133, 28, 133, 105, 184, 0, 145, 172]
theorem kRcX1_isLeap_eq : cX1_isLeap.data.toList.map UInt8.toNat = kCcX1_isLeap_0 := by decide +kernel
theorem dX1_isLeap_0 : decode cX1_isLeap 0 = .ok (.iload_n 1, 1) := dz_27 (kin0 (p := 0) kRcX1_isLeap_eq rfl)
theorem dX1_isLeap_1 : decode cX1_isLeap 1 = .ok (.i2l, 1) := dz_133 (kin0 (p := 1) kRcX1_isLeap_eq rfl)
theorem dX1_isLeap_2 : decode cX1_isLeap 2 = .ok (.iload_n 2, 1) := dz_28 (kin0 (p := 2) kRcX1_isLeap_eq rfl)
theorem dX1_isLeap_3 : decode cX1_isLeap 3 = .ok (.i2l, 1) := dz_133 (kin0 (p := 3) kRcX1_isLeap_eq rfl)
theorem dX1_isLeap_4 : decode cX1_isLeap 4 = .ok (.lmul, 1) := dz_105 (kin0 (p := 4) kRcX1_isLeap_eq rfl)
theorem dX1_isLeap_5 : decode cX1_isLeap 5 = .ok (.invokestatic 145, 3) := dz_184 (kin0 (p := 5) kRcX1_isLeap_eq rfl) (kin0 (p := 6) kRcX1_isLeap_eq rfl) (kin0 (p := 7) kRcX1_isLeap_eq rfl) rfl
theorem dX1_isLeap_8 : decode cX1_isLeap 8 = .ok (.ireturn, 1) := dz_172 (kin0 (p := 8) kRcX1_isLeap_eq rfl)
def kCcX1_hasFeast_0 : List Nat := [27, 184, 0, 40, 28, 184, 0, 40, 29, 154, 0, 21, 42, 28, 42, 180, 0, 13, 27, 46, 182, 0, 176, 153, 0, 7, 4, 167, 0, 4, 3, 172]
theorem kRcX1_hasFeast_eq : cX1_hasFeast.data.toList.map UInt8.toNat = kCcX1_hasFeast_0 := by decide +kernel
theorem dX1_hasFeast_0 : decode cX1_hasFeast 0 = .ok (.iload_n 1, 1) := dz_27 (kin0 (p := 0) kRcX1_hasFeast_eq rfl)
theorem dX1_hasFeast_1 : decode cX1_hasFeast 1 = .ok (.invokestatic 40, 3) := dz_184 (kin0 (p := 1) kRcX1_hasFeast_eq rfl) (kin0 (p := 2) kRcX1_hasFeast_eq rfl) (kin0 (p := 3) kRcX1_hasFeast_eq rfl) rfl
theorem dX1_hasFeast_4 : decode cX1_hasFeast 4 = .ok (.iload_n 2, 1) := dz_28 (kin0 (p := 4) kRcX1_hasFeast_eq rfl)
theorem dX1_hasFeast_5 : decode cX1_hasFeast 5 = .ok (.invokestatic 40, 3) := dz_184 (kin0 (p := 5) kRcX1_hasFeast_eq rfl) (kin0 (p := 6) kRcX1_hasFeast_eq rfl) (kin0 (p := 7) kRcX1_hasFeast_eq rfl) rfl
theorem dX1_hasFeast_8 : decode cX1_hasFeast 8 = .ok (.iload_n 3, 1) := dz_29 (kin0 (p := 8) kRcX1_hasFeast_eq rfl)
theorem dX1_hasFeast_9 : decode cX1_hasFeast 9 = .ok (.ifCond .ne 21, 3) := dz_154 (kin0 (p := 9) kRcX1_hasFeast_eq rfl) (kin0 (p := 10) kRcX1_hasFeast_eq rfl) (kin0 (p := 11) kRcX1_hasFeast_eq rfl) rfl
theorem dX1_hasFeast_12 : decode cX1_hasFeast 12 = .ok (.aload_n 0, 1) := dz_42 (kin0 (p := 12) kRcX1_hasFeast_eq rfl)
theorem dX1_hasFeast_13 : decode cX1_hasFeast 13 = .ok (.iload_n 2, 1) := dz_28 (kin0 (p := 13) kRcX1_hasFeast_eq rfl)
theorem dX1_hasFeast_14 : decode cX1_hasFeast 14 = .ok (.aload_n 0, 1) := dz_42 (kin0 (p := 14) kRcX1_hasFeast_eq rfl)
theorem dX1_hasFeast_15 : decode cX1_hasFeast 15 = .ok (.getfield 13, 3) := dz_180 (kin0 (p := 15) kRcX1_hasFeast_eq rfl) (kin0 (p := 16) kRcX1_hasFeast_eq rfl) (kin0 (p := 17) kRcX1_hasFeast_eq rfl) rfl
theorem dX1_hasFeast_18 : decode cX1_hasFeast 18 = .ok (.iload_n 1, 1) := dz_27 (kin0 (p := 18) kRcX1_hasFeast_eq rfl)
theorem dX1_hasFeast_19 : decode cX1_hasFeast 19 = .ok (.iaload, 1) := dz_46 (kin0 (p := 19) kRcX1_hasFeast_eq rfl)
theorem dX1_hasFeast_20 : decode cX1_hasFeast 20 = .ok (.invokevirtual 176, 3) := dz_182 (kin0 (p := 20) kRcX1_hasFeast_eq rfl) (kin0 (p := 21) kRcX1_hasFeast_eq rfl) (kin0 (p := 22) kRcX1_hasFeast_eq rfl) rfl
theorem dX1_hasFeast_23 : decode cX1_hasFeast 23 = .ok (.ifCond .eq 7, 3) := dz_153 (kin0 (p := 23) kRcX1_hasFeast_eq rfl) (kin0 (p := 24) kRcX1_hasFeast_eq rfl) (kin0 (p := 25) kRcX1_hasFeast_eq rfl) rfl
theorem dX1_hasFeast_26 : decode cX1_hasFeast 26 = .ok (.iconst 1, 1) := dz_4 (kin0 (p := 26) kRcX1_hasFeast_eq rfl)
theorem dX1_hasFeast_27 : decode cX1_hasFeast 27 = .ok (.goto 4, 3) := dz_167 (kin0 (p := 27) kRcX1_hasFeast_eq rfl) (kin0 (p := 28) kRcX1_hasFeast_eq rfl) (kin0 (p := 29) kRcX1_hasFeast_eq rfl) rfl
theorem dX1_hasFeast_30 : decode cX1_hasFeast 30 = .ok (.iconst 0, 1) := dz_3 (kin0 (p := 30) kRcX1_hasFeast_eq rfl)
theorem dX1_hasFeast_31 : decode cX1_hasFeast 31 = .ok (.ireturn, 1) := dz_172 (kin0 (p := 31) kRcX1_hasFeast_eq rfl)
def kCcX1_yearOrder_0 : List Nat := [27, 184, 0, 40, 28, 184, 0, 40, 29, 3, 5, 184, 0, 71, 42, 180, 0, 13, 27, 46, 133, 42, 180, 0, 13, 28, 46, 133, 29, 184, 0, 168]
def kCcX1_yearOrder_1 : List Nat := [172]
def kRcX1_yearOrder_2 : List Nat := []
def kRcX1_yearOrder_1 : List Nat := kCcX1_yearOrder_1 ++ kRcX1_yearOrder_2
def kRcX1_yearOrder_0 : List Nat := kCcX1_yearOrder_0 ++ kRcX1_yearOrder_1
theorem kRcX1_yearOrder_eq : cX1_yearOrder.data.toList.map UInt8.toNat = kRcX1_yearOrder_0 := by decide +kernel
theorem katcX1_yearOrder_0 (i : Nat) : (cX1_yearOrder.data.toList.map UInt8.toNat)[0 + i]? = kRcX1_yearOrder_0[i]? := by rw [kRcX1_yearOrder_eq, Nat.zero_add]
theorem katcX1_yearOrder_1 : ∀ i : Nat, (cX1_yearOrder.data.toList.map UInt8.toNat)[32 + i]? = kRcX1_yearOrder_1[i]? := kstep katcX1_yearOrder_0 (C := kCcX1_yearOrder_0) rfl rfl
theorem kBcX1_yearOrder_0 {b : Nat} (p : Nat) (hp : Nat.ble 0 p = true) (h : kCcX1_yearOrder_0[p - 0]? = some b) : kb cX1_yearOrder p b := kin katcX1_yearOrder_0 rfl hp h
theorem kBcX1_yearOrder_1 {b : Nat} (p : Nat) (hp : Nat.ble 32 p = true) (h : kCcX1_yearOrder_1[p - 32]? = some b) : kb cX1_yearOrder p b := kin katcX1_yearOrder_1 rfl hp h
theorem dX1_yearOrder_0 : decode cX1_yearOrder 0 = .ok (.iload_n 1, 1) := dz_27 (kBcX1_yearOrder_0 0 rfl rfl)
theorem dX1_yearOrder_1 : decode cX1_yearOrder 1 = .ok (.invokestatic 40, 3) := dz_184 (kBcX1_yearOrder_0 1 rfl rfl) (kBcX1_yearOrder_0 2 rfl rfl) (kBcX1_yearOrder_0 3 rfl rfl) rfl
theorem dX1_yearOrder_4 : decode cX1_yearOrder 4 = .ok (.iload_n 2, 1) := dz_28 (kBcX1_yearOrder_0 4 rfl rfl)
theorem dX1_yearOrder_5 : decode cX1_yearOrder 5 = .ok (.invokestatic 40, 3) := dz_184 (kBcX1_yearOrder_0 5 rfl rfl) (kBcX1_yearOrder_0 6 rfl rfl) (kBcX1_yearOrder_0 7 rfl rfl) rfl
theorem dX1_yearOrder_8 : decode cX1_yearOrder 8 = .ok (.iload_n 3, 1) := dz_29 (kBcX1_yearOrder_0 8 rfl rfl)
theorem dX1_yearOrder_9 : decode cX1_yearOrder 9 = .ok (.iconst 0, 1) := dz_3 (kBcX1_yearOrder_0 9 rfl rfl)
theorem dX1_yearOrder_10 : decode cX1_yearOrder 10 = .ok (.iconst 2, 1) := dz_5 (kBcX1_yearOrder_0 10 rfl rfl)
theorem dX1_yearOrder_11 : decode cX1_yearOrder 11 = .ok (.invokestatic 71, 3) := dz_184 (kBcX1_yearOrder_0 11 rfl rfl) (kBcX1_yearOrder_0 12 rfl rfl) (kBcX1_yearOrder_0 13 rfl rfl) rfl
theorem dX1_yearOrder_14 : decode cX1_yearOrder 14 = .ok (.aload_n 0, 1) := dz_42 (kBcX1_yearOrder_0 14 rfl rfl)
theorem dX1_yearOrder_15 : decode cX1_yearOrder 15 = .ok (.getfield 13, 3) := dz_180 (kBcX1_yearOrder_0 15 rfl rfl) (kBcX1_yearOrder_0 16 rfl rfl) (kBcX1_yearOrder_0 17 rfl rfl) rfl
theorem dX1_yearOrder_18 : decode cX1_yearOrder 18 = .ok (.iload_n 1, 1) := dz_27 (kBcX1_yearOrder_0 18 rfl rfl)
theorem dX1_yearOrder_19 : decode cX1_yearOrder 19 = .ok (.iaload, 1) := dz_46 (kBcX1_yearOrder_0 19 rfl rfl)
theorem dX1_yearOrder_20 : decode cX1_yearOrder 20 = .ok (.i2l, 1) := dz_133 (kBcX1_yearOrder_0 20 rfl rfl)
theorem dX1_yearOrder_21 : decode cX1_yearOrder 21 = .ok (.aload_n 0, 1) := dz_42 (kBcX1_yearOrder_0 21 rfl rfl)
theorem dX1_yearOrder_22 : decode cX1_yearOrder 22 = .ok (.getfield 13, 3) := dz_180 (kBcX1_yearOrder_0 22 rfl rfl) (kBcX1_yearOrder_0 23 rfl rfl) (kBcX1_yearOrder_0 24 rfl rfl) rfl
theorem dX1_yearOrder_25 : decode cX1_yearOrder 25 = .ok (.iload_n 2, 1) := dz_28 (kBcX1_yearOrder_0 25 rfl rfl)
theorem dX1_yearOrder_26 : decode cX1_yearOrder 26 = .ok (.iaload, 1) := dz_46 (kBcX1_yearOrder_0 26 rfl rfl)
theorem dX1_yearOrder_27 : decode cX1_yearOrder 27 = .ok (.i2l, 1) := dz_133 (kBcX1_yearOrder_0 27 rfl rfl)
theorem dX1_yearOrder_28 : decode cX1_yearOrder 28 = .ok (.iload_n 3, 1) := dz_29 (kBcX1_yearOrder_0 28 rfl rfl)
theorem dX1_yearOrder_29 : decode cX1_yearOrder 29 = .ok (.invokestatic 168, 3) := dz_184 (kBcX1_yearOrder_0 29 rfl rfl) (kBcX1_yearOrder_0 30 rfl rfl) (kBcX1_yearOrder_0 31 rfl rfl) rfl
theorem dX1_yearOrder_32 : decode cX1_yearOrder 32 = .ok (.ireturn, 1) := dz_172 (kBcX1_yearOrder_1 32 rfl rfl)
def kCcX1_isYear_0 : List Nat := [27, 184, 0, 40, 29, 184, 0, 40, 28, 3, 7, 184, 0, 71, 28, 4, 160, 0, 22, 42, 180, 0, 13, 27, 46, 42, 180, 0, 13, 29, 46, 160]
def kCcX1_isYear_1 : List Nat := [0, 7, 4, 167, 0, 4, 3, 172]
def kRcX1_isYear_2 : List Nat := []
def kRcX1_isYear_1 : List Nat := kCcX1_isYear_1 ++ kRcX1_isYear_2
def kRcX1_isYear_0 : List Nat := kCcX1_isYear_0 ++ kRcX1_isYear_1
theorem kRcX1_isYear_eq : cX1_isYear.data.toList.map UInt8.toNat = kRcX1_isYear_0 := by decide +kernel
theorem katcX1_isYear_0 (i : Nat) : (cX1_isYear.data.toList.map UInt8.toNat)[0 + i]? = kRcX1_isYear_0[i]? := by rw [kRcX1_isYear_eq, Nat.zero_add]
theorem katcX1_isYear_1 : ∀ i : Nat, (cX1_isYear.data.toList.map UInt8.toNat)[32 + i]? = kRcX1_isYear_1[i]? := kstep katcX1_isYear_0 (C := kCcX1_isYear_0) rfl rfl
theorem kBcX1_isYear_0 {b : Nat} (p : Nat) (hp : Nat.ble 0 p = true) (h : kCcX1_isYear_0[p - 0]? = some b) : kb cX1_isYear p b := kin katcX1_isYear_0 rfl hp h
theorem kBcX1_isYear_1 {b : Nat} (p : Nat) (hp : Nat.ble 32 p = true) (h : kCcX1_isYear_1[p - 32]? = some b) : kb cX1_isYear p b := kin katcX1_isYear_1 rfl hp h
theorem dX1_isYear_0 : decode cX1_isYear 0 = .ok (.iload_n 1, 1) := dz_27 (kBcX1_isYear_0 0 rfl rfl)
theorem dX1_isYear_1 : decode cX1_isYear 1 = .ok (.invokestatic 40, 3) := dz_184 (kBcX1_isYear_0 1 rfl rfl) (kBcX1_isYear_0 2 rfl rfl) (kBcX1_isYear_0 3 rfl rfl) rfl
theorem dX1_isYear_4 : decode cX1_isYear 4 = .ok (.iload_n 3, 1) := dz_29 (kBcX1_isYear_0 4 rfl rfl)
theorem dX1_isYear_5 : decode cX1_isYear 5 = .ok (.invokestatic 40, 3) := dz_184 (kBcX1_isYear_0 5 rfl rfl) (kBcX1_isYear_0 6 rfl rfl) (kBcX1_isYear_0 7 rfl rfl) rfl
theorem dX1_isYear_8 : decode cX1_isYear 8 = .ok (.iload_n 2, 1) := dz_28 (kBcX1_isYear_0 8 rfl rfl)
theorem dX1_isYear_9 : decode cX1_isYear 9 = .ok (.iconst 0, 1) := dz_3 (kBcX1_isYear_0 9 rfl rfl)
theorem dX1_isYear_10 : decode cX1_isYear 10 = .ok (.iconst 4, 1) := dz_7 (kBcX1_isYear_0 10 rfl rfl)
theorem dX1_isYear_11 : decode cX1_isYear 11 = .ok (.invokestatic 71, 3) := dz_184 (kBcX1_isYear_0 11 rfl rfl) (kBcX1_isYear_0 12 rfl rfl) (kBcX1_isYear_0 13 rfl rfl) rfl
theorem dX1_isYear_14 : decode cX1_isYear 14 = .ok (.iload_n 2, 1) := dz_28 (kBcX1_isYear_0 14 rfl rfl)
theorem dX1_isYear_15 : decode cX1_isYear 15 = .ok (.iconst 1, 1) := dz_4 (kBcX1_isYear_0 15 rfl rfl)
theorem dX1_isYear_16 : decode cX1_isYear 16 = .ok (.if_icmp .ne 22, 3) := dz_160 (kBcX1_isYear_0 16 rfl rfl) (kBcX1_isYear_0 17 rfl rfl) (kBcX1_isYear_0 18 rfl rfl) rfl
theorem dX1_isYear_19 : decode cX1_isYear 19 = .ok (.aload_n 0, 1) := dz_42 (kBcX1_isYear_0 19 rfl rfl)
theorem dX1_isYear_20 : decode cX1_isYear 20 = .ok (.getfield 13, 3) := dz_180 (kBcX1_isYear_0 20 rfl rfl) (kBcX1_isYear_0 21 rfl rfl) (kBcX1_isYear_0 22 rfl rfl) rfl
theorem dX1_isYear_23 : decode cX1_isYear 23 = .ok (.iload_n 1, 1) := dz_27 (kBcX1_isYear_0 23 rfl rfl)
theorem dX1_isYear_24 : decode cX1_isYear 24 = .ok (.iaload, 1) := dz_46 (kBcX1_isYear_0 24 rfl rfl)
theorem dX1_isYear_25 : decode cX1_isYear 25 = .ok (.aload_n 0, 1) := dz_42 (kBcX1_isYear_0 25 rfl rfl)
theorem dX1_isYear_26 : decode cX1_isYear 26 = .ok (.getfield 13, 3) := dz_180 (kBcX1_isYear_0 26 rfl rfl) (kBcX1_isYear_0 27 rfl rfl) (kBcX1_isYear_0 28 rfl rfl) rfl
theorem dX1_isYear_29 : decode cX1_isYear 29 = .ok (.iload_n 3, 1) := dz_29 (kBcX1_isYear_0 29 rfl rfl)
theorem dX1_isYear_30 : decode cX1_isYear 30 = .ok (.iaload, 1) := dz_46 (kBcX1_isYear_0 30 rfl rfl)
theorem dX1_isYear_31 : decode cX1_isYear 31 = .ok (.if_icmp .ne 7, 3) := dz_160 (kBcX1_isYear_0 31 rfl rfl) (kBcX1_isYear_1 32 rfl rfl) (kBcX1_isYear_1 33 rfl rfl) rfl
theorem dX1_isYear_34 : decode cX1_isYear 34 = .ok (.iconst 1, 1) := dz_4 (kBcX1_isYear_1 34 rfl rfl)
theorem dX1_isYear_35 : decode cX1_isYear 35 = .ok (.goto 4, 3) := dz_167 (kBcX1_isYear_1 35 rfl rfl) (kBcX1_isYear_1 36 rfl rfl) (kBcX1_isYear_1 37 rfl rfl) rfl
theorem dX1_isYear_38 : decode cX1_isYear 38 = .ok (.iconst 0, 1) := dz_3 (kBcX1_isYear_1 38 rfl rfl)
theorem dX1_isYear_39 : decode cX1_isYear 39 = .ok (.ireturn, 1) := dz_172 (kBcX1_isYear_1 39 rfl rfl)
def kCcX1_yearTo_0 : List Nat := [27, 184, 0, 40, 28, 184, 0, 40, 29, 4, 7, 184, 0, 71, 42, 180, 0, 13, 28, 46, 133, 42, 180, 0, 13, 27, 46, 133, 101, 55, 5, 42]
def kCcX1_yearTo_1 : List Nat := [20, 0, 102, 22, 5, 105, 29, 184, 0, 179, 182, 0, 164, 176]
def kRcX1_yearTo_2 : List Nat := []
def kRcX1_yearTo_1 : List Nat := kCcX1_yearTo_1 ++ kRcX1_yearTo_2
def kRcX1_yearTo_0 : List Nat := kCcX1_yearTo_0 ++ kRcX1_yearTo_1
theorem kRcX1_yearTo_eq : cX1_yearTo.data.toList.map UInt8.toNat = kRcX1_yearTo_0 := by decide +kernel
theorem katcX1_yearTo_0 (i : Nat) : (cX1_yearTo.data.toList.map UInt8.toNat)[0 + i]? = kRcX1_yearTo_0[i]? := by rw [kRcX1_yearTo_eq, Nat.zero_add]
theorem katcX1_yearTo_1 : ∀ i : Nat, (cX1_yearTo.data.toList.map UInt8.toNat)[32 + i]? = kRcX1_yearTo_1[i]? := kstep katcX1_yearTo_0 (C := kCcX1_yearTo_0) rfl rfl
theorem kBcX1_yearTo_0 {b : Nat} (p : Nat) (hp : Nat.ble 0 p = true) (h : kCcX1_yearTo_0[p - 0]? = some b) : kb cX1_yearTo p b := kin katcX1_yearTo_0 rfl hp h
theorem kBcX1_yearTo_1 {b : Nat} (p : Nat) (hp : Nat.ble 32 p = true) (h : kCcX1_yearTo_1[p - 32]? = some b) : kb cX1_yearTo p b := kin katcX1_yearTo_1 rfl hp h
theorem dX1_yearTo_0 : decode cX1_yearTo 0 = .ok (.iload_n 1, 1) := dz_27 (kBcX1_yearTo_0 0 rfl rfl)
theorem dX1_yearTo_1 : decode cX1_yearTo 1 = .ok (.invokestatic 40, 3) := dz_184 (kBcX1_yearTo_0 1 rfl rfl) (kBcX1_yearTo_0 2 rfl rfl) (kBcX1_yearTo_0 3 rfl rfl) rfl
theorem dX1_yearTo_4 : decode cX1_yearTo 4 = .ok (.iload_n 2, 1) := dz_28 (kBcX1_yearTo_0 4 rfl rfl)
theorem dX1_yearTo_5 : decode cX1_yearTo 5 = .ok (.invokestatic 40, 3) := dz_184 (kBcX1_yearTo_0 5 rfl rfl) (kBcX1_yearTo_0 6 rfl rfl) (kBcX1_yearTo_0 7 rfl rfl) rfl
theorem dX1_yearTo_8 : decode cX1_yearTo 8 = .ok (.iload_n 3, 1) := dz_29 (kBcX1_yearTo_0 8 rfl rfl)
theorem dX1_yearTo_9 : decode cX1_yearTo 9 = .ok (.iconst 1, 1) := dz_4 (kBcX1_yearTo_0 9 rfl rfl)
theorem dX1_yearTo_10 : decode cX1_yearTo 10 = .ok (.iconst 4, 1) := dz_7 (kBcX1_yearTo_0 10 rfl rfl)
theorem dX1_yearTo_11 : decode cX1_yearTo 11 = .ok (.invokestatic 71, 3) := dz_184 (kBcX1_yearTo_0 11 rfl rfl) (kBcX1_yearTo_0 12 rfl rfl) (kBcX1_yearTo_0 13 rfl rfl) rfl
theorem dX1_yearTo_14 : decode cX1_yearTo 14 = .ok (.aload_n 0, 1) := dz_42 (kBcX1_yearTo_0 14 rfl rfl)
theorem dX1_yearTo_15 : decode cX1_yearTo 15 = .ok (.getfield 13, 3) := dz_180 (kBcX1_yearTo_0 15 rfl rfl) (kBcX1_yearTo_0 16 rfl rfl) (kBcX1_yearTo_0 17 rfl rfl) rfl
theorem dX1_yearTo_18 : decode cX1_yearTo 18 = .ok (.iload_n 2, 1) := dz_28 (kBcX1_yearTo_0 18 rfl rfl)
theorem dX1_yearTo_19 : decode cX1_yearTo 19 = .ok (.iaload, 1) := dz_46 (kBcX1_yearTo_0 19 rfl rfl)
theorem dX1_yearTo_20 : decode cX1_yearTo 20 = .ok (.i2l, 1) := dz_133 (kBcX1_yearTo_0 20 rfl rfl)
theorem dX1_yearTo_21 : decode cX1_yearTo 21 = .ok (.aload_n 0, 1) := dz_42 (kBcX1_yearTo_0 21 rfl rfl)
theorem dX1_yearTo_22 : decode cX1_yearTo 22 = .ok (.getfield 13, 3) := dz_180 (kBcX1_yearTo_0 22 rfl rfl) (kBcX1_yearTo_0 23 rfl rfl) (kBcX1_yearTo_0 24 rfl rfl) rfl
theorem dX1_yearTo_25 : decode cX1_yearTo 25 = .ok (.iload_n 1, 1) := dz_27 (kBcX1_yearTo_0 25 rfl rfl)
theorem dX1_yearTo_26 : decode cX1_yearTo 26 = .ok (.iaload, 1) := dz_46 (kBcX1_yearTo_0 26 rfl rfl)
theorem dX1_yearTo_27 : decode cX1_yearTo 27 = .ok (.i2l, 1) := dz_133 (kBcX1_yearTo_0 27 rfl rfl)
theorem dX1_yearTo_28 : decode cX1_yearTo 28 = .ok (.lsub, 1) := dz_101 (kBcX1_yearTo_0 28 rfl rfl)
theorem dX1_yearTo_29 : decode cX1_yearTo 29 = .ok (.lstore 5, 2) := dz_55 (kBcX1_yearTo_0 29 rfl rfl) (kBcX1_yearTo_0 30 rfl rfl)
theorem dX1_yearTo_31 : decode cX1_yearTo 31 = .ok (.aload_n 0, 1) := dz_42 (kBcX1_yearTo_0 31 rfl rfl)
theorem dX1_yearTo_32 : decode cX1_yearTo 32 = .ok (.ldc2_w 102, 3) := dz_20 (kBcX1_yearTo_1 32 rfl rfl) (kBcX1_yearTo_1 33 rfl rfl) (kBcX1_yearTo_1 34 rfl rfl) rfl
theorem dX1_yearTo_35 : decode cX1_yearTo 35 = .ok (.lload 5, 2) := dz_22 (kBcX1_yearTo_1 35 rfl rfl) (kBcX1_yearTo_1 36 rfl rfl)
theorem dX1_yearTo_37 : decode cX1_yearTo 37 = .ok (.lmul, 1) := dz_105 (kBcX1_yearTo_1 37 rfl rfl)
theorem dX1_yearTo_38 : decode cX1_yearTo 38 = .ok (.iload_n 3, 1) := dz_29 (kBcX1_yearTo_1 38 rfl rfl)
theorem dX1_yearTo_39 : decode cX1_yearTo 39 = .ok (.invokestatic 179, 3) := dz_184 (kBcX1_yearTo_1 39 rfl rfl) (kBcX1_yearTo_1 40 rfl rfl) (kBcX1_yearTo_1 41 rfl rfl) rfl
theorem dX1_yearTo_42 : decode cX1_yearTo 42 = .ok (.invokevirtual 164, 3) := dz_182 (kBcX1_yearTo_1 42 rfl rfl) (kBcX1_yearTo_1 43 rfl rfl) (kBcX1_yearTo_1 44 rfl rfl) rfl
theorem dX1_yearTo_45 : decode cX1_yearTo 45 = .ok (.areturn, 1) := dz_176 (kBcX1_yearTo_1 45 rfl rfl)
def kCcX1_ofFeast_0 : List Nat := [27, 184, 0, 40, 28, 3, 7, 184, 0, 71, 28, 170, 0, 0, 0, 58, 0, 0, 0, 1, 0, 0, 0, 4, 0, 0, 0, 29, 0, 0, 0, 58]
def kCcX1_ofFeast_1 : List Nat := [0, 0, 0, 36, 0, 0, 0, 47, 42, 180, 0, 20, 27, 46, 172, 42, 180, 0, 17, 27, 46, 3, 184, 0, 115, 172, 42, 180, 0, 17, 27, 46]
def kCcX1_ofFeast_2 : List Nat := [4, 184, 0, 115, 172, 42, 180, 0, 17, 27, 46, 172]
def kRcX1_ofFeast_3 : List Nat := []
def kRcX1_ofFeast_2 : List Nat := kCcX1_ofFeast_2 ++ kRcX1_ofFeast_3
def kRcX1_ofFeast_1 : List Nat := kCcX1_ofFeast_1 ++ kRcX1_ofFeast_2
def kRcX1_ofFeast_0 : List Nat := kCcX1_ofFeast_0 ++ kRcX1_ofFeast_1
theorem kRcX1_ofFeast_eq : cX1_ofFeast.data.toList.map UInt8.toNat = kRcX1_ofFeast_0 := by decide +kernel
theorem katcX1_ofFeast_0 (i : Nat) : (cX1_ofFeast.data.toList.map UInt8.toNat)[0 + i]? = kRcX1_ofFeast_0[i]? := by rw [kRcX1_ofFeast_eq, Nat.zero_add]
theorem katcX1_ofFeast_1 : ∀ i : Nat, (cX1_ofFeast.data.toList.map UInt8.toNat)[32 + i]? = kRcX1_ofFeast_1[i]? := kstep katcX1_ofFeast_0 (C := kCcX1_ofFeast_0) rfl rfl
theorem katcX1_ofFeast_2 : ∀ i : Nat, (cX1_ofFeast.data.toList.map UInt8.toNat)[64 + i]? = kRcX1_ofFeast_2[i]? := kstep katcX1_ofFeast_1 (C := kCcX1_ofFeast_1) rfl rfl
theorem kBcX1_ofFeast_0 {b : Nat} (p : Nat) (hp : Nat.ble 0 p = true) (h : kCcX1_ofFeast_0[p - 0]? = some b) : kb cX1_ofFeast p b := kin katcX1_ofFeast_0 rfl hp h
theorem kBcX1_ofFeast_1 {b : Nat} (p : Nat) (hp : Nat.ble 32 p = true) (h : kCcX1_ofFeast_1[p - 32]? = some b) : kb cX1_ofFeast p b := kin katcX1_ofFeast_1 rfl hp h
theorem kBcX1_ofFeast_2 {b : Nat} (p : Nat) (hp : Nat.ble 64 p = true) (h : kCcX1_ofFeast_2[p - 64]? = some b) : kb cX1_ofFeast p b := kin katcX1_ofFeast_2 rfl hp h
theorem dX1_ofFeast_0 : decode cX1_ofFeast 0 = .ok (.iload_n 1, 1) := dz_27 (kBcX1_ofFeast_0 0 rfl rfl)
theorem dX1_ofFeast_1 : decode cX1_ofFeast 1 = .ok (.invokestatic 40, 3) := dz_184 (kBcX1_ofFeast_0 1 rfl rfl) (kBcX1_ofFeast_0 2 rfl rfl) (kBcX1_ofFeast_0 3 rfl rfl) rfl
theorem dX1_ofFeast_4 : decode cX1_ofFeast 4 = .ok (.iload_n 2, 1) := dz_28 (kBcX1_ofFeast_0 4 rfl rfl)
theorem dX1_ofFeast_5 : decode cX1_ofFeast 5 = .ok (.iconst 0, 1) := dz_3 (kBcX1_ofFeast_0 5 rfl rfl)
theorem dX1_ofFeast_6 : decode cX1_ofFeast 6 = .ok (.iconst 4, 1) := dz_7 (kBcX1_ofFeast_0 6 rfl rfl)
theorem dX1_ofFeast_7 : decode cX1_ofFeast 7 = .ok (.invokestatic 71, 3) := dz_184 (kBcX1_ofFeast_0 7 rfl rfl) (kBcX1_ofFeast_0 8 rfl rfl) (kBcX1_ofFeast_0 9 rfl rfl) rfl
theorem dX1_ofFeast_10 : decode cX1_ofFeast 10 = .ok (.iload_n 2, 1) := dz_28 (kBcX1_ofFeast_0 10 rfl rfl)
theorem dX1_ofFeast_11 : decode cX1_ofFeast 11 = .ok (.tableswitch 58 1 4 #[29, 58, 36, 47], 29) := by decide +kernel
theorem dX1_ofFeast_40 : decode cX1_ofFeast 40 = .ok (.aload_n 0, 1) := dz_42 (kBcX1_ofFeast_1 40 rfl rfl)
theorem dX1_ofFeast_41 : decode cX1_ofFeast 41 = .ok (.getfield 20, 3) := dz_180 (kBcX1_ofFeast_1 41 rfl rfl) (kBcX1_ofFeast_1 42 rfl rfl) (kBcX1_ofFeast_1 43 rfl rfl) rfl
theorem dX1_ofFeast_44 : decode cX1_ofFeast 44 = .ok (.iload_n 1, 1) := dz_27 (kBcX1_ofFeast_1 44 rfl rfl)
theorem dX1_ofFeast_45 : decode cX1_ofFeast 45 = .ok (.iaload, 1) := dz_46 (kBcX1_ofFeast_1 45 rfl rfl)
theorem dX1_ofFeast_46 : decode cX1_ofFeast 46 = .ok (.ireturn, 1) := dz_172 (kBcX1_ofFeast_1 46 rfl rfl)
theorem dX1_ofFeast_47 : decode cX1_ofFeast 47 = .ok (.aload_n 0, 1) := dz_42 (kBcX1_ofFeast_1 47 rfl rfl)
theorem dX1_ofFeast_48 : decode cX1_ofFeast 48 = .ok (.getfield 17, 3) := dz_180 (kBcX1_ofFeast_1 48 rfl rfl) (kBcX1_ofFeast_1 49 rfl rfl) (kBcX1_ofFeast_1 50 rfl rfl) rfl
theorem dX1_ofFeast_51 : decode cX1_ofFeast 51 = .ok (.iload_n 1, 1) := dz_27 (kBcX1_ofFeast_1 51 rfl rfl)
theorem dX1_ofFeast_52 : decode cX1_ofFeast 52 = .ok (.iaload, 1) := dz_46 (kBcX1_ofFeast_1 52 rfl rfl)
theorem dX1_ofFeast_53 : decode cX1_ofFeast 53 = .ok (.iconst 0, 1) := dz_3 (kBcX1_ofFeast_1 53 rfl rfl)
theorem dX1_ofFeast_54 : decode cX1_ofFeast 54 = .ok (.invokestatic 115, 3) := dz_184 (kBcX1_ofFeast_1 54 rfl rfl) (kBcX1_ofFeast_1 55 rfl rfl) (kBcX1_ofFeast_1 56 rfl rfl) rfl
theorem dX1_ofFeast_57 : decode cX1_ofFeast 57 = .ok (.ireturn, 1) := dz_172 (kBcX1_ofFeast_1 57 rfl rfl)
theorem dX1_ofFeast_58 : decode cX1_ofFeast 58 = .ok (.aload_n 0, 1) := dz_42 (kBcX1_ofFeast_1 58 rfl rfl)
theorem dX1_ofFeast_59 : decode cX1_ofFeast 59 = .ok (.getfield 17, 3) := dz_180 (kBcX1_ofFeast_1 59 rfl rfl) (kBcX1_ofFeast_1 60 rfl rfl) (kBcX1_ofFeast_1 61 rfl rfl) rfl
theorem dX1_ofFeast_62 : decode cX1_ofFeast 62 = .ok (.iload_n 1, 1) := dz_27 (kBcX1_ofFeast_1 62 rfl rfl)
theorem dX1_ofFeast_63 : decode cX1_ofFeast 63 = .ok (.iaload, 1) := dz_46 (kBcX1_ofFeast_1 63 rfl rfl)
theorem dX1_ofFeast_64 : decode cX1_ofFeast 64 = .ok (.iconst 1, 1) := dz_4 (kBcX1_ofFeast_2 64 rfl rfl)
theorem dX1_ofFeast_65 : decode cX1_ofFeast 65 = .ok (.invokestatic 115, 3) := dz_184 (kBcX1_ofFeast_2 65 rfl rfl) (kBcX1_ofFeast_2 66 rfl rfl) (kBcX1_ofFeast_2 67 rfl rfl) rfl
theorem dX1_ofFeast_68 : decode cX1_ofFeast 68 = .ok (.ireturn, 1) := dz_172 (kBcX1_ofFeast_2 68 rfl rfl)
theorem dX1_ofFeast_69 : decode cX1_ofFeast 69 = .ok (.aload_n 0, 1) := dz_42 (kBcX1_ofFeast_2 69 rfl rfl)
theorem dX1_ofFeast_70 : decode cX1_ofFeast 70 = .ok (.getfield 17, 3) := dz_180 (kBcX1_ofFeast_2 70 rfl rfl) (kBcX1_ofFeast_2 71 rfl rfl) (kBcX1_ofFeast_2 72 rfl rfl) rfl
theorem dX1_ofFeast_73 : decode cX1_ofFeast 73 = .ok (.iload_n 1, 1) := dz_27 (kBcX1_ofFeast_2 73 rfl rfl)
theorem dX1_ofFeast_74 : decode cX1_ofFeast 74 = .ok (.iaload, 1) := dz_46 (kBcX1_ofFeast_2 74 rfl rfl)
theorem dX1_ofFeast_75 : decode cX1_ofFeast 75 = .ok (.ireturn, 1) := dz_172 (kBcX1_ofFeast_2 75 rfl rfl)
def kCcX1_isInYear_0 : List Nat := [27, 184, 0, 40, 28, 184, 0, 44, 42, 27, 28, 182, 0, 176, 172]
theorem kRcX1_isInYear_eq : cX1_isInYear.data.toList.map UInt8.toNat = kCcX1_isInYear_0 := by decide +kernel
theorem dX1_isInYear_0 : decode cX1_isInYear 0 = .ok (.iload_n 1, 1) := dz_27 (kin0 (p := 0) kRcX1_isInYear_eq rfl)
theorem dX1_isInYear_1 : decode cX1_isInYear 1 = .ok (.invokestatic 40, 3) := dz_184 (kin0 (p := 1) kRcX1_isInYear_eq rfl) (kin0 (p := 2) kRcX1_isInYear_eq rfl) (kin0 (p := 3) kRcX1_isInYear_eq rfl) rfl
theorem dX1_isInYear_4 : decode cX1_isInYear 4 = .ok (.iload_n 2, 1) := dz_28 (kin0 (p := 4) kRcX1_isInYear_eq rfl)
theorem dX1_isInYear_5 : decode cX1_isInYear 5 = .ok (.invokestatic 44, 3) := dz_184 (kin0 (p := 5) kRcX1_isInYear_eq rfl) (kin0 (p := 6) kRcX1_isInYear_eq rfl) (kin0 (p := 7) kRcX1_isInYear_eq rfl) rfl
theorem dX1_isInYear_8 : decode cX1_isInYear 8 = .ok (.aload_n 0, 1) := dz_42 (kin0 (p := 8) kRcX1_isInYear_eq rfl)
theorem dX1_isInYear_9 : decode cX1_isInYear 9 = .ok (.iload_n 1, 1) := dz_27 (kin0 (p := 9) kRcX1_isInYear_eq rfl)
theorem dX1_isInYear_10 : decode cX1_isInYear 10 = .ok (.iload_n 2, 1) := dz_28 (kin0 (p := 10) kRcX1_isInYear_eq rfl)
theorem dX1_isInYear_11 : decode cX1_isInYear 11 = .ok (.invokevirtual 176, 3) := dz_182 (kin0 (p := 11) kRcX1_isInYear_eq rfl) (kin0 (p := 12) kRcX1_isInYear_eq rfl) (kin0 (p := 13) kRcX1_isInYear_eq rfl) rfl
theorem dX1_isInYear_14 : decode cX1_isInYear 14 = .ok (.ireturn, 1) := dz_172 (kin0 (p := 14) kRcX1_isInYear_eq rfl)
def kCcX1_feastOrder_0 : List Nat := [27, 184, 0, 40, 28, 184, 0, 40, 29, 3, 5, 184, 0, 71, 42, 27, 182, 0, 125, 133, 42, 28, 182, 0, 125, 133, 29, 184, 0, 168, 172]
theorem kRcX1_feastOrder_eq : cX1_feastOrder.data.toList.map UInt8.toNat = kCcX1_feastOrder_0 := by decide +kernel
theorem dX1_feastOrder_0 : decode cX1_feastOrder 0 = .ok (.iload_n 1, 1) := dz_27 (kin0 (p := 0) kRcX1_feastOrder_eq rfl)
theorem dX1_feastOrder_1 : decode cX1_feastOrder 1 = .ok (.invokestatic 40, 3) := dz_184 (kin0 (p := 1) kRcX1_feastOrder_eq rfl) (kin0 (p := 2) kRcX1_feastOrder_eq rfl) (kin0 (p := 3) kRcX1_feastOrder_eq rfl) rfl
theorem dX1_feastOrder_4 : decode cX1_feastOrder 4 = .ok (.iload_n 2, 1) := dz_28 (kin0 (p := 4) kRcX1_feastOrder_eq rfl)
theorem dX1_feastOrder_5 : decode cX1_feastOrder 5 = .ok (.invokestatic 40, 3) := dz_184 (kin0 (p := 5) kRcX1_feastOrder_eq rfl) (kin0 (p := 6) kRcX1_feastOrder_eq rfl) (kin0 (p := 7) kRcX1_feastOrder_eq rfl) rfl
theorem dX1_feastOrder_8 : decode cX1_feastOrder 8 = .ok (.iload_n 3, 1) := dz_29 (kin0 (p := 8) kRcX1_feastOrder_eq rfl)
theorem dX1_feastOrder_9 : decode cX1_feastOrder 9 = .ok (.iconst 0, 1) := dz_3 (kin0 (p := 9) kRcX1_feastOrder_eq rfl)
theorem dX1_feastOrder_10 : decode cX1_feastOrder 10 = .ok (.iconst 2, 1) := dz_5 (kin0 (p := 10) kRcX1_feastOrder_eq rfl)
theorem dX1_feastOrder_11 : decode cX1_feastOrder 11 = .ok (.invokestatic 71, 3) := dz_184 (kin0 (p := 11) kRcX1_feastOrder_eq rfl) (kin0 (p := 12) kRcX1_feastOrder_eq rfl) (kin0 (p := 13) kRcX1_feastOrder_eq rfl) rfl
theorem dX1_feastOrder_14 : decode cX1_feastOrder 14 = .ok (.aload_n 0, 1) := dz_42 (kin0 (p := 14) kRcX1_feastOrder_eq rfl)
theorem dX1_feastOrder_15 : decode cX1_feastOrder 15 = .ok (.iload_n 1, 1) := dz_27 (kin0 (p := 15) kRcX1_feastOrder_eq rfl)
theorem dX1_feastOrder_16 : decode cX1_feastOrder 16 = .ok (.invokevirtual 125, 3) := dz_182 (kin0 (p := 16) kRcX1_feastOrder_eq rfl) (kin0 (p := 17) kRcX1_feastOrder_eq rfl) (kin0 (p := 18) kRcX1_feastOrder_eq rfl) rfl
theorem dX1_feastOrder_19 : decode cX1_feastOrder 19 = .ok (.i2l, 1) := dz_133 (kin0 (p := 19) kRcX1_feastOrder_eq rfl)
theorem dX1_feastOrder_20 : decode cX1_feastOrder 20 = .ok (.aload_n 0, 1) := dz_42 (kin0 (p := 20) kRcX1_feastOrder_eq rfl)
theorem dX1_feastOrder_21 : decode cX1_feastOrder 21 = .ok (.iload_n 2, 1) := dz_28 (kin0 (p := 21) kRcX1_feastOrder_eq rfl)
theorem dX1_feastOrder_22 : decode cX1_feastOrder 22 = .ok (.invokevirtual 125, 3) := dz_182 (kin0 (p := 22) kRcX1_feastOrder_eq rfl) (kin0 (p := 23) kRcX1_feastOrder_eq rfl) (kin0 (p := 24) kRcX1_feastOrder_eq rfl) rfl
theorem dX1_feastOrder_25 : decode cX1_feastOrder 25 = .ok (.i2l, 1) := dz_133 (kin0 (p := 25) kRcX1_feastOrder_eq rfl)
theorem dX1_feastOrder_26 : decode cX1_feastOrder 26 = .ok (.iload_n 3, 1) := dz_29 (kin0 (p := 26) kRcX1_feastOrder_eq rfl)
theorem dX1_feastOrder_27 : decode cX1_feastOrder 27 = .ok (.invokestatic 168, 3) := dz_184 (kin0 (p := 27) kRcX1_feastOrder_eq rfl) (kin0 (p := 28) kRcX1_feastOrder_eq rfl) (kin0 (p := 29) kRcX1_feastOrder_eq rfl) rfl
theorem dX1_feastOrder_30 : decode cX1_feastOrder 30 = .ok (.ireturn, 1) := dz_172 (kin0 (p := 30) kRcX1_feastOrder_eq rfl)
def kCcX1_isFeast_0 : List Nat := [27, 184, 0, 40, 29, 184, 0, 40, 28, 3, 7, 184, 0, 71, 28, 5, 160, 0, 20, 42, 27, 182, 0, 125, 42, 29, 182, 0, 125, 160, 0, 7]
def kCcX1_isFeast_1 : List Nat := [4, 167, 0, 4, 3, 172]
def kRcX1_isFeast_2 : List Nat := []
def kRcX1_isFeast_1 : List Nat := kCcX1_isFeast_1 ++ kRcX1_isFeast_2
def kRcX1_isFeast_0 : List Nat := kCcX1_isFeast_0 ++ kRcX1_isFeast_1
theorem kRcX1_isFeast_eq : cX1_isFeast.data.toList.map UInt8.toNat = kRcX1_isFeast_0 := by decide +kernel
theorem katcX1_isFeast_0 (i : Nat) : (cX1_isFeast.data.toList.map UInt8.toNat)[0 + i]? = kRcX1_isFeast_0[i]? := by rw [kRcX1_isFeast_eq, Nat.zero_add]
theorem katcX1_isFeast_1 : ∀ i : Nat, (cX1_isFeast.data.toList.map UInt8.toNat)[32 + i]? = kRcX1_isFeast_1[i]? := kstep katcX1_isFeast_0 (C := kCcX1_isFeast_0) rfl rfl
theorem kBcX1_isFeast_0 {b : Nat} (p : Nat) (hp : Nat.ble 0 p = true) (h : kCcX1_isFeast_0[p - 0]? = some b) : kb cX1_isFeast p b := kin katcX1_isFeast_0 rfl hp h
theorem kBcX1_isFeast_1 {b : Nat} (p : Nat) (hp : Nat.ble 32 p = true) (h : kCcX1_isFeast_1[p - 32]? = some b) : kb cX1_isFeast p b := kin katcX1_isFeast_1 rfl hp h
theorem dX1_isFeast_0 : decode cX1_isFeast 0 = .ok (.iload_n 1, 1) := dz_27 (kBcX1_isFeast_0 0 rfl rfl)
theorem dX1_isFeast_1 : decode cX1_isFeast 1 = .ok (.invokestatic 40, 3) := dz_184 (kBcX1_isFeast_0 1 rfl rfl) (kBcX1_isFeast_0 2 rfl rfl) (kBcX1_isFeast_0 3 rfl rfl) rfl
theorem dX1_isFeast_4 : decode cX1_isFeast 4 = .ok (.iload_n 3, 1) := dz_29 (kBcX1_isFeast_0 4 rfl rfl)
theorem dX1_isFeast_5 : decode cX1_isFeast 5 = .ok (.invokestatic 40, 3) := dz_184 (kBcX1_isFeast_0 5 rfl rfl) (kBcX1_isFeast_0 6 rfl rfl) (kBcX1_isFeast_0 7 rfl rfl) rfl
theorem dX1_isFeast_8 : decode cX1_isFeast 8 = .ok (.iload_n 2, 1) := dz_28 (kBcX1_isFeast_0 8 rfl rfl)
theorem dX1_isFeast_9 : decode cX1_isFeast 9 = .ok (.iconst 0, 1) := dz_3 (kBcX1_isFeast_0 9 rfl rfl)
theorem dX1_isFeast_10 : decode cX1_isFeast 10 = .ok (.iconst 4, 1) := dz_7 (kBcX1_isFeast_0 10 rfl rfl)
theorem dX1_isFeast_11 : decode cX1_isFeast 11 = .ok (.invokestatic 71, 3) := dz_184 (kBcX1_isFeast_0 11 rfl rfl) (kBcX1_isFeast_0 12 rfl rfl) (kBcX1_isFeast_0 13 rfl rfl) rfl
theorem dX1_isFeast_14 : decode cX1_isFeast 14 = .ok (.iload_n 2, 1) := dz_28 (kBcX1_isFeast_0 14 rfl rfl)
theorem dX1_isFeast_15 : decode cX1_isFeast 15 = .ok (.iconst 2, 1) := dz_5 (kBcX1_isFeast_0 15 rfl rfl)
theorem dX1_isFeast_16 : decode cX1_isFeast 16 = .ok (.if_icmp .ne 20, 3) := dz_160 (kBcX1_isFeast_0 16 rfl rfl) (kBcX1_isFeast_0 17 rfl rfl) (kBcX1_isFeast_0 18 rfl rfl) rfl
theorem dX1_isFeast_19 : decode cX1_isFeast 19 = .ok (.aload_n 0, 1) := dz_42 (kBcX1_isFeast_0 19 rfl rfl)
theorem dX1_isFeast_20 : decode cX1_isFeast 20 = .ok (.iload_n 1, 1) := dz_27 (kBcX1_isFeast_0 20 rfl rfl)
theorem dX1_isFeast_21 : decode cX1_isFeast 21 = .ok (.invokevirtual 125, 3) := dz_182 (kBcX1_isFeast_0 21 rfl rfl) (kBcX1_isFeast_0 22 rfl rfl) (kBcX1_isFeast_0 23 rfl rfl) rfl
theorem dX1_isFeast_24 : decode cX1_isFeast 24 = .ok (.aload_n 0, 1) := dz_42 (kBcX1_isFeast_0 24 rfl rfl)
theorem dX1_isFeast_25 : decode cX1_isFeast 25 = .ok (.iload_n 3, 1) := dz_29 (kBcX1_isFeast_0 25 rfl rfl)
theorem dX1_isFeast_26 : decode cX1_isFeast 26 = .ok (.invokevirtual 125, 3) := dz_182 (kBcX1_isFeast_0 26 rfl rfl) (kBcX1_isFeast_0 27 rfl rfl) (kBcX1_isFeast_0 28 rfl rfl) rfl
theorem dX1_isFeast_29 : decode cX1_isFeast 29 = .ok (.if_icmp .ne 7, 3) := dz_160 (kBcX1_isFeast_0 29 rfl rfl) (kBcX1_isFeast_0 30 rfl rfl) (kBcX1_isFeast_0 31 rfl rfl) rfl
theorem dX1_isFeast_32 : decode cX1_isFeast 32 = .ok (.iconst 1, 1) := dz_4 (kBcX1_isFeast_1 32 rfl rfl)
theorem dX1_isFeast_33 : decode cX1_isFeast 33 = .ok (.goto 4, 3) := dz_167 (kBcX1_isFeast_1 33 rfl rfl) (kBcX1_isFeast_1 34 rfl rfl) (kBcX1_isFeast_1 35 rfl rfl) rfl
theorem dX1_isFeast_36 : decode cX1_isFeast 36 = .ok (.iconst 0, 1) := dz_3 (kBcX1_isFeast_1 36 rfl rfl)
theorem dX1_isFeast_37 : decode cX1_isFeast 37 = .ok (.ireturn, 1) := dz_172 (kBcX1_isFeast_1 37 rfl rfl)
def kCcX1_ofDay_0 : List Nat := [27, 184, 0, 40, 28, 3, 8, 184, 0, 71, 42, 180, 0, 23, 27, 47, 66, 28, 170, 0, 0, 0, 0, 68, 0, 0, 0, 0, 0, 0, 0, 4]
def kCcX1_ofDay_1 : List Nat := [0, 0, 0, 34, 0, 0, 0, 39, 0, 0, 0, 44, 0, 0, 0, 51, 0, 0, 0, 62, 33, 184, 0, 81, 172, 33, 184, 0, 77, 172, 42, 180]
def kCcX1_ofDay_2 : List Nat := [0, 26, 27, 46, 172, 33, 42, 180, 0, 26, 27, 46, 184, 0, 183, 172, 42, 27, 182, 0, 136, 172, 42, 27, 182, 0, 187, 184, 0, 92, 172]
def kRcX1_ofDay_3 : List Nat := []
def kRcX1_ofDay_2 : List Nat := kCcX1_ofDay_2 ++ kRcX1_ofDay_3
def kRcX1_ofDay_1 : List Nat := kCcX1_ofDay_1 ++ kRcX1_ofDay_2
def kRcX1_ofDay_0 : List Nat := kCcX1_ofDay_0 ++ kRcX1_ofDay_1
theorem kRcX1_ofDay_eq : cX1_ofDay.data.toList.map UInt8.toNat = kRcX1_ofDay_0 := by decide +kernel
theorem katcX1_ofDay_0 (i : Nat) : (cX1_ofDay.data.toList.map UInt8.toNat)[0 + i]? = kRcX1_ofDay_0[i]? := by rw [kRcX1_ofDay_eq, Nat.zero_add]
theorem katcX1_ofDay_1 : ∀ i : Nat, (cX1_ofDay.data.toList.map UInt8.toNat)[32 + i]? = kRcX1_ofDay_1[i]? := kstep katcX1_ofDay_0 (C := kCcX1_ofDay_0) rfl rfl
theorem katcX1_ofDay_2 : ∀ i : Nat, (cX1_ofDay.data.toList.map UInt8.toNat)[64 + i]? = kRcX1_ofDay_2[i]? := kstep katcX1_ofDay_1 (C := kCcX1_ofDay_1) rfl rfl
theorem kBcX1_ofDay_0 {b : Nat} (p : Nat) (hp : Nat.ble 0 p = true) (h : kCcX1_ofDay_0[p - 0]? = some b) : kb cX1_ofDay p b := kin katcX1_ofDay_0 rfl hp h
theorem kBcX1_ofDay_1 {b : Nat} (p : Nat) (hp : Nat.ble 32 p = true) (h : kCcX1_ofDay_1[p - 32]? = some b) : kb cX1_ofDay p b := kin katcX1_ofDay_1 rfl hp h
theorem kBcX1_ofDay_2 {b : Nat} (p : Nat) (hp : Nat.ble 64 p = true) (h : kCcX1_ofDay_2[p - 64]? = some b) : kb cX1_ofDay p b := kin katcX1_ofDay_2 rfl hp h
theorem dX1_ofDay_0 : decode cX1_ofDay 0 = .ok (.iload_n 1, 1) := dz_27 (kBcX1_ofDay_0 0 rfl rfl)
theorem dX1_ofDay_1 : decode cX1_ofDay 1 = .ok (.invokestatic 40, 3) := dz_184 (kBcX1_ofDay_0 1 rfl rfl) (kBcX1_ofDay_0 2 rfl rfl) (kBcX1_ofDay_0 3 rfl rfl) rfl
theorem dX1_ofDay_4 : decode cX1_ofDay 4 = .ok (.iload_n 2, 1) := dz_28 (kBcX1_ofDay_0 4 rfl rfl)
theorem dX1_ofDay_5 : decode cX1_ofDay 5 = .ok (.iconst 0, 1) := dz_3 (kBcX1_ofDay_0 5 rfl rfl)
theorem dX1_ofDay_6 : decode cX1_ofDay 6 = .ok (.iconst 5, 1) := dz_8 (kBcX1_ofDay_0 6 rfl rfl)
theorem dX1_ofDay_7 : decode cX1_ofDay 7 = .ok (.invokestatic 71, 3) := dz_184 (kBcX1_ofDay_0 7 rfl rfl) (kBcX1_ofDay_0 8 rfl rfl) (kBcX1_ofDay_0 9 rfl rfl) rfl
theorem dX1_ofDay_10 : decode cX1_ofDay 10 = .ok (.aload_n 0, 1) := dz_42 (kBcX1_ofDay_0 10 rfl rfl)
theorem dX1_ofDay_11 : decode cX1_ofDay 11 = .ok (.getfield 23, 3) := dz_180 (kBcX1_ofDay_0 11 rfl rfl) (kBcX1_ofDay_0 12 rfl rfl) (kBcX1_ofDay_0 13 rfl rfl) rfl
theorem dX1_ofDay_14 : decode cX1_ofDay 14 = .ok (.iload_n 1, 1) := dz_27 (kBcX1_ofDay_0 14 rfl rfl)
theorem dX1_ofDay_15 : decode cX1_ofDay 15 = .ok (.laload, 1) := dz_47 (kBcX1_ofDay_0 15 rfl rfl)
theorem dX1_ofDay_16 : decode cX1_ofDay 16 = .ok (.lstore_n 3, 1) := dz_66 (kBcX1_ofDay_0 16 rfl rfl)
theorem dX1_ofDay_17 : decode cX1_ofDay 17 = .ok (.iload_n 2, 1) := dz_28 (kBcX1_ofDay_0 17 rfl rfl)
theorem dX1_ofDay_18 : decode cX1_ofDay 18 = .ok (.tableswitch 68 0 4 #[34, 39, 44, 51, 62], 34) := by decide +kernel
theorem dX1_ofDay_52 : decode cX1_ofDay 52 = .ok (.lload_n 3, 1) := dz_33 (kBcX1_ofDay_1 52 rfl rfl)
theorem dX1_ofDay_53 : decode cX1_ofDay 53 = .ok (.invokestatic 81, 3) := dz_184 (kBcX1_ofDay_1 53 rfl rfl) (kBcX1_ofDay_1 54 rfl rfl) (kBcX1_ofDay_1 55 rfl rfl) rfl
theorem dX1_ofDay_56 : decode cX1_ofDay 56 = .ok (.ireturn, 1) := dz_172 (kBcX1_ofDay_1 56 rfl rfl)
theorem dX1_ofDay_57 : decode cX1_ofDay 57 = .ok (.lload_n 3, 1) := dz_33 (kBcX1_ofDay_1 57 rfl rfl)
theorem dX1_ofDay_58 : decode cX1_ofDay 58 = .ok (.invokestatic 77, 3) := dz_184 (kBcX1_ofDay_1 58 rfl rfl) (kBcX1_ofDay_1 59 rfl rfl) (kBcX1_ofDay_1 60 rfl rfl) rfl
theorem dX1_ofDay_61 : decode cX1_ofDay 61 = .ok (.ireturn, 1) := dz_172 (kBcX1_ofDay_1 61 rfl rfl)
theorem dX1_ofDay_62 : decode cX1_ofDay 62 = .ok (.aload_n 0, 1) := dz_42 (kBcX1_ofDay_1 62 rfl rfl)
theorem dX1_ofDay_63 : decode cX1_ofDay 63 = .ok (.getfield 26, 3) := dz_180 (kBcX1_ofDay_1 63 rfl rfl) (kBcX1_ofDay_2 64 rfl rfl) (kBcX1_ofDay_2 65 rfl rfl) rfl
theorem dX1_ofDay_66 : decode cX1_ofDay 66 = .ok (.iload_n 1, 1) := dz_27 (kBcX1_ofDay_2 66 rfl rfl)
theorem dX1_ofDay_67 : decode cX1_ofDay 67 = .ok (.iaload, 1) := dz_46 (kBcX1_ofDay_2 67 rfl rfl)
theorem dX1_ofDay_68 : decode cX1_ofDay 68 = .ok (.ireturn, 1) := dz_172 (kBcX1_ofDay_2 68 rfl rfl)
theorem dX1_ofDay_69 : decode cX1_ofDay 69 = .ok (.lload_n 3, 1) := dz_33 (kBcX1_ofDay_2 69 rfl rfl)
theorem dX1_ofDay_70 : decode cX1_ofDay 70 = .ok (.aload_n 0, 1) := dz_42 (kBcX1_ofDay_2 70 rfl rfl)
theorem dX1_ofDay_71 : decode cX1_ofDay 71 = .ok (.getfield 26, 3) := dz_180 (kBcX1_ofDay_2 71 rfl rfl) (kBcX1_ofDay_2 72 rfl rfl) (kBcX1_ofDay_2 73 rfl rfl) rfl
theorem dX1_ofDay_74 : decode cX1_ofDay 74 = .ok (.iload_n 1, 1) := dz_27 (kBcX1_ofDay_2 74 rfl rfl)
theorem dX1_ofDay_75 : decode cX1_ofDay 75 = .ok (.iaload, 1) := dz_46 (kBcX1_ofDay_2 75 rfl rfl)
theorem dX1_ofDay_76 : decode cX1_ofDay 76 = .ok (.invokestatic 183, 3) := dz_184 (kBcX1_ofDay_2 76 rfl rfl) (kBcX1_ofDay_2 77 rfl rfl) (kBcX1_ofDay_2 78 rfl rfl) rfl
theorem dX1_ofDay_79 : decode cX1_ofDay 79 = .ok (.ireturn, 1) := dz_172 (kBcX1_ofDay_2 79 rfl rfl)
theorem dX1_ofDay_80 : decode cX1_ofDay 80 = .ok (.aload_n 0, 1) := dz_42 (kBcX1_ofDay_2 80 rfl rfl)
theorem dX1_ofDay_81 : decode cX1_ofDay 81 = .ok (.iload_n 1, 1) := dz_27 (kBcX1_ofDay_2 81 rfl rfl)
theorem dX1_ofDay_82 : decode cX1_ofDay 82 = .ok (.invokevirtual 136, 3) := dz_182 (kBcX1_ofDay_2 82 rfl rfl) (kBcX1_ofDay_2 83 rfl rfl) (kBcX1_ofDay_2 84 rfl rfl) rfl
theorem dX1_ofDay_85 : decode cX1_ofDay 85 = .ok (.ireturn, 1) := dz_172 (kBcX1_ofDay_2 85 rfl rfl)
theorem dX1_ofDay_86 : decode cX1_ofDay 86 = .ok (.aload_n 0, 1) := dz_42 (kBcX1_ofDay_2 86 rfl rfl)
theorem dX1_ofDay_87 : decode cX1_ofDay 87 = .ok (.iload_n 1, 1) := dz_27 (kBcX1_ofDay_2 87 rfl rfl)
theorem dX1_ofDay_88 : decode cX1_ofDay 88 = .ok (.invokevirtual 187, 3) := dz_182 (kBcX1_ofDay_2 88 rfl rfl) (kBcX1_ofDay_2 89 rfl rfl) (kBcX1_ofDay_2 90 rfl rfl) rfl
theorem dX1_ofDay_91 : decode cX1_ofDay 91 = .ok (.invokestatic 92, 3) := dz_184 (kBcX1_ofDay_2 91 rfl rfl) (kBcX1_ofDay_2 92 rfl rfl) (kBcX1_ofDay_2 93 rfl rfl) rfl
theorem dX1_ofDay_94 : decode cX1_ofDay 94 = .ok (.ireturn, 1) := dz_172 (kBcX1_ofDay_2 94 rfl rfl)
def kCcX1_number_0 : List Nat := [27, 184, 0, 40, 42, 42, 27, 182, 0, 191, 182, 0, 164, 176]
theorem kRcX1_number_eq : cX1_number.data.toList.map UInt8.toNat = kCcX1_number_0 := by decide +kernel
theorem dX1_number_0 : decode cX1_number 0 = .ok (.iload_n 1, 1) := dz_27 (kin0 (p := 0) kRcX1_number_eq rfl)
theorem dX1_number_1 : decode cX1_number 1 = .ok (.invokestatic 40, 3) := dz_184 (kin0 (p := 1) kRcX1_number_eq rfl) (kin0 (p := 2) kRcX1_number_eq rfl) (kin0 (p := 3) kRcX1_number_eq rfl) rfl
theorem dX1_number_4 : decode cX1_number 4 = .ok (.aload_n 0, 1) := dz_42 (kin0 (p := 4) kRcX1_number_eq rfl)
theorem dX1_number_5 : decode cX1_number 5 = .ok (.aload_n 0, 1) := dz_42 (kin0 (p := 5) kRcX1_number_eq rfl)
theorem dX1_number_6 : decode cX1_number 6 = .ok (.iload_n 1, 1) := dz_27 (kin0 (p := 6) kRcX1_number_eq rfl)
theorem dX1_number_7 : decode cX1_number 7 = .ok (.invokevirtual 191, 3) := dz_182 (kin0 (p := 7) kRcX1_number_eq rfl) (kin0 (p := 8) kRcX1_number_eq rfl) (kin0 (p := 9) kRcX1_number_eq rfl) rfl
theorem dX1_number_10 : decode cX1_number 10 = .ok (.invokevirtual 164, 3) := dz_182 (kin0 (p := 10) kRcX1_number_eq rfl) (kin0 (p := 11) kRcX1_number_eq rfl) (kin0 (p := 12) kRcX1_number_eq rfl) rfl
theorem dX1_number_13 : decode cX1_number 13 = .ok (.areturn, 1) := dz_176 (kin0 (p := 13) kRcX1_number_eq rfl)
def kCcX1_dayOrder_0 : List Nat := [27, 184, 0, 40, 28, 184, 0, 40, 29, 3, 5, 184, 0, 71, 42, 27, 182, 0, 191, 42, 28, 182, 0, 191, 29, 184, 0, 168, 172]
theorem kRcX1_dayOrder_eq : cX1_dayOrder.data.toList.map UInt8.toNat = kCcX1_dayOrder_0 := by decide +kernel
theorem dX1_dayOrder_0 : decode cX1_dayOrder 0 = .ok (.iload_n 1, 1) := dz_27 (kin0 (p := 0) kRcX1_dayOrder_eq rfl)
theorem dX1_dayOrder_1 : decode cX1_dayOrder 1 = .ok (.invokestatic 40, 3) := dz_184 (kin0 (p := 1) kRcX1_dayOrder_eq rfl) (kin0 (p := 2) kRcX1_dayOrder_eq rfl) (kin0 (p := 3) kRcX1_dayOrder_eq rfl) rfl
theorem dX1_dayOrder_4 : decode cX1_dayOrder 4 = .ok (.iload_n 2, 1) := dz_28 (kin0 (p := 4) kRcX1_dayOrder_eq rfl)
theorem dX1_dayOrder_5 : decode cX1_dayOrder 5 = .ok (.invokestatic 40, 3) := dz_184 (kin0 (p := 5) kRcX1_dayOrder_eq rfl) (kin0 (p := 6) kRcX1_dayOrder_eq rfl) (kin0 (p := 7) kRcX1_dayOrder_eq rfl) rfl
theorem dX1_dayOrder_8 : decode cX1_dayOrder 8 = .ok (.iload_n 3, 1) := dz_29 (kin0 (p := 8) kRcX1_dayOrder_eq rfl)
theorem dX1_dayOrder_9 : decode cX1_dayOrder 9 = .ok (.iconst 0, 1) := dz_3 (kin0 (p := 9) kRcX1_dayOrder_eq rfl)
theorem dX1_dayOrder_10 : decode cX1_dayOrder 10 = .ok (.iconst 2, 1) := dz_5 (kin0 (p := 10) kRcX1_dayOrder_eq rfl)
theorem dX1_dayOrder_11 : decode cX1_dayOrder 11 = .ok (.invokestatic 71, 3) := dz_184 (kin0 (p := 11) kRcX1_dayOrder_eq rfl) (kin0 (p := 12) kRcX1_dayOrder_eq rfl) (kin0 (p := 13) kRcX1_dayOrder_eq rfl) rfl
theorem dX1_dayOrder_14 : decode cX1_dayOrder 14 = .ok (.aload_n 0, 1) := dz_42 (kin0 (p := 14) kRcX1_dayOrder_eq rfl)
theorem dX1_dayOrder_15 : decode cX1_dayOrder 15 = .ok (.iload_n 1, 1) := dz_27 (kin0 (p := 15) kRcX1_dayOrder_eq rfl)
theorem dX1_dayOrder_16 : decode cX1_dayOrder 16 = .ok (.invokevirtual 191, 3) := dz_182 (kin0 (p := 16) kRcX1_dayOrder_eq rfl) (kin0 (p := 17) kRcX1_dayOrder_eq rfl) (kin0 (p := 18) kRcX1_dayOrder_eq rfl) rfl
theorem dX1_dayOrder_19 : decode cX1_dayOrder 19 = .ok (.aload_n 0, 1) := dz_42 (kin0 (p := 19) kRcX1_dayOrder_eq rfl)
theorem dX1_dayOrder_20 : decode cX1_dayOrder 20 = .ok (.iload_n 2, 1) := dz_28 (kin0 (p := 20) kRcX1_dayOrder_eq rfl)
theorem dX1_dayOrder_21 : decode cX1_dayOrder 21 = .ok (.invokevirtual 191, 3) := dz_182 (kin0 (p := 21) kRcX1_dayOrder_eq rfl) (kin0 (p := 22) kRcX1_dayOrder_eq rfl) (kin0 (p := 23) kRcX1_dayOrder_eq rfl) rfl
theorem dX1_dayOrder_24 : decode cX1_dayOrder 24 = .ok (.iload_n 3, 1) := dz_29 (kin0 (p := 24) kRcX1_dayOrder_eq rfl)
theorem dX1_dayOrder_25 : decode cX1_dayOrder 25 = .ok (.invokestatic 168, 3) := dz_184 (kin0 (p := 25) kRcX1_dayOrder_eq rfl) (kin0 (p := 26) kRcX1_dayOrder_eq rfl) (kin0 (p := 27) kRcX1_dayOrder_eq rfl) rfl
theorem dX1_dayOrder_28 : decode cX1_dayOrder 28 = .ok (.ireturn, 1) := dz_172 (kin0 (p := 28) kRcX1_dayOrder_eq rfl)
def kCcX1_knows_0 : List Nat := [27, 3, 5, 184, 0, 71, 28, 3, 16, 12, 184, 0, 71, 27, 171, 0, 0, 0, 0, 70, 0, 0, 0, 2, 0, 0, 0, 0, 0, 0, 0, 26]
def kCcX1_knows_1 : List Nat := [0, 0, 0, 1, 0, 0, 0, 48, 28, 4, 161, 0, 8, 28, 8, 164, 0, 9, 28, 16, 7, 161, 0, 7, 4, 167, 0, 4, 3, 172, 28, 6]
def kCcX1_knows_2 : List Nat := [161, 0, 8, 28, 8, 164, 0, 9, 28, 16, 8, 161, 0, 7, 4, 167, 0, 4, 3, 172, 28, 4, 163, 0, 7, 4, 167, 0, 4, 3, 172]
def kRcX1_knows_3 : List Nat := []
def kRcX1_knows_2 : List Nat := kCcX1_knows_2 ++ kRcX1_knows_3
def kRcX1_knows_1 : List Nat := kCcX1_knows_1 ++ kRcX1_knows_2
def kRcX1_knows_0 : List Nat := kCcX1_knows_0 ++ kRcX1_knows_1
theorem kRcX1_knows_eq : cX1_knows.data.toList.map UInt8.toNat = kRcX1_knows_0 := by decide +kernel
theorem katcX1_knows_0 (i : Nat) : (cX1_knows.data.toList.map UInt8.toNat)[0 + i]? = kRcX1_knows_0[i]? := by rw [kRcX1_knows_eq, Nat.zero_add]
theorem katcX1_knows_1 : ∀ i : Nat, (cX1_knows.data.toList.map UInt8.toNat)[32 + i]? = kRcX1_knows_1[i]? := kstep katcX1_knows_0 (C := kCcX1_knows_0) rfl rfl
theorem katcX1_knows_2 : ∀ i : Nat, (cX1_knows.data.toList.map UInt8.toNat)[64 + i]? = kRcX1_knows_2[i]? := kstep katcX1_knows_1 (C := kCcX1_knows_1) rfl rfl
theorem kBcX1_knows_0 {b : Nat} (p : Nat) (hp : Nat.ble 0 p = true) (h : kCcX1_knows_0[p - 0]? = some b) : kb cX1_knows p b := kin katcX1_knows_0 rfl hp h
theorem kBcX1_knows_1 {b : Nat} (p : Nat) (hp : Nat.ble 32 p = true) (h : kCcX1_knows_1[p - 32]? = some b) : kb cX1_knows p b := kin katcX1_knows_1 rfl hp h
theorem kBcX1_knows_2 {b : Nat} (p : Nat) (hp : Nat.ble 64 p = true) (h : kCcX1_knows_2[p - 64]? = some b) : kb cX1_knows p b := kin katcX1_knows_2 rfl hp h
theorem dX1_knows_0 : decode cX1_knows 0 = .ok (.iload_n 1, 1) := dz_27 (kBcX1_knows_0 0 rfl rfl)
theorem dX1_knows_1 : decode cX1_knows 1 = .ok (.iconst 0, 1) := dz_3 (kBcX1_knows_0 1 rfl rfl)
theorem dX1_knows_2 : decode cX1_knows 2 = .ok (.iconst 2, 1) := dz_5 (kBcX1_knows_0 2 rfl rfl)
theorem dX1_knows_3 : decode cX1_knows 3 = .ok (.invokestatic 71, 3) := dz_184 (kBcX1_knows_0 3 rfl rfl) (kBcX1_knows_0 4 rfl rfl) (kBcX1_knows_0 5 rfl rfl) rfl
theorem dX1_knows_6 : decode cX1_knows 6 = .ok (.iload_n 2, 1) := dz_28 (kBcX1_knows_0 6 rfl rfl)
theorem dX1_knows_7 : decode cX1_knows 7 = .ok (.iconst 0, 1) := dz_3 (kBcX1_knows_0 7 rfl rfl)
theorem dX1_knows_8 : decode cX1_knows 8 = .ok (.bipush 12, 2) := dz_16 (kBcX1_knows_0 8 rfl rfl) (kBcX1_knows_0 9 rfl rfl) rfl
theorem dX1_knows_10 : decode cX1_knows 10 = .ok (.invokestatic 71, 3) := dz_184 (kBcX1_knows_0 10 rfl rfl) (kBcX1_knows_0 11 rfl rfl) (kBcX1_knows_0 12 rfl rfl) rfl
theorem dX1_knows_13 : decode cX1_knows 13 = .ok (.iload_n 1, 1) := dz_27 (kBcX1_knows_0 13 rfl rfl)
theorem dX1_knows_14 : decode cX1_knows 14 = .ok (.lookupswitch 70 #[(0, 26), (1, 48)], 26) := by decide +kernel
theorem dX1_knows_40 : decode cX1_knows 40 = .ok (.iload_n 2, 1) := dz_28 (kBcX1_knows_1 40 rfl rfl)
theorem dX1_knows_41 : decode cX1_knows 41 = .ok (.iconst 1, 1) := dz_4 (kBcX1_knows_1 41 rfl rfl)
theorem dX1_knows_42 : decode cX1_knows 42 = .ok (.if_icmp .lt 8, 3) := dz_161 (kBcX1_knows_1 42 rfl rfl) (kBcX1_knows_1 43 rfl rfl) (kBcX1_knows_1 44 rfl rfl) rfl
theorem dX1_knows_45 : decode cX1_knows 45 = .ok (.iload_n 2, 1) := dz_28 (kBcX1_knows_1 45 rfl rfl)
theorem dX1_knows_46 : decode cX1_knows 46 = .ok (.iconst 5, 1) := dz_8 (kBcX1_knows_1 46 rfl rfl)
theorem dX1_knows_47 : decode cX1_knows 47 = .ok (.if_icmp .le 9, 3) := dz_164 (kBcX1_knows_1 47 rfl rfl) (kBcX1_knows_1 48 rfl rfl) (kBcX1_knows_1 49 rfl rfl) rfl
theorem dX1_knows_50 : decode cX1_knows 50 = .ok (.iload_n 2, 1) := dz_28 (kBcX1_knows_1 50 rfl rfl)
theorem dX1_knows_51 : decode cX1_knows 51 = .ok (.bipush 7, 2) := dz_16 (kBcX1_knows_1 51 rfl rfl) (kBcX1_knows_1 52 rfl rfl) rfl
theorem dX1_knows_53 : decode cX1_knows 53 = .ok (.if_icmp .lt 7, 3) := dz_161 (kBcX1_knows_1 53 rfl rfl) (kBcX1_knows_1 54 rfl rfl) (kBcX1_knows_1 55 rfl rfl) rfl
theorem dX1_knows_56 : decode cX1_knows 56 = .ok (.iconst 1, 1) := dz_4 (kBcX1_knows_1 56 rfl rfl)
theorem dX1_knows_57 : decode cX1_knows 57 = .ok (.goto 4, 3) := dz_167 (kBcX1_knows_1 57 rfl rfl) (kBcX1_knows_1 58 rfl rfl) (kBcX1_knows_1 59 rfl rfl) rfl
theorem dX1_knows_60 : decode cX1_knows 60 = .ok (.iconst 0, 1) := dz_3 (kBcX1_knows_1 60 rfl rfl)
theorem dX1_knows_61 : decode cX1_knows 61 = .ok (.ireturn, 1) := dz_172 (kBcX1_knows_1 61 rfl rfl)
theorem dX1_knows_62 : decode cX1_knows 62 = .ok (.iload_n 2, 1) := dz_28 (kBcX1_knows_1 62 rfl rfl)
theorem dX1_knows_63 : decode cX1_knows 63 = .ok (.iconst 3, 1) := dz_6 (kBcX1_knows_1 63 rfl rfl)
theorem dX1_knows_64 : decode cX1_knows 64 = .ok (.if_icmp .lt 8, 3) := dz_161 (kBcX1_knows_2 64 rfl rfl) (kBcX1_knows_2 65 rfl rfl) (kBcX1_knows_2 66 rfl rfl) rfl
theorem dX1_knows_67 : decode cX1_knows 67 = .ok (.iload_n 2, 1) := dz_28 (kBcX1_knows_2 67 rfl rfl)
theorem dX1_knows_68 : decode cX1_knows 68 = .ok (.iconst 5, 1) := dz_8 (kBcX1_knows_2 68 rfl rfl)
theorem dX1_knows_69 : decode cX1_knows 69 = .ok (.if_icmp .le 9, 3) := dz_164 (kBcX1_knows_2 69 rfl rfl) (kBcX1_knows_2 70 rfl rfl) (kBcX1_knows_2 71 rfl rfl) rfl
theorem dX1_knows_72 : decode cX1_knows 72 = .ok (.iload_n 2, 1) := dz_28 (kBcX1_knows_2 72 rfl rfl)
theorem dX1_knows_73 : decode cX1_knows 73 = .ok (.bipush 8, 2) := dz_16 (kBcX1_knows_2 73 rfl rfl) (kBcX1_knows_2 74 rfl rfl) rfl
theorem dX1_knows_75 : decode cX1_knows 75 = .ok (.if_icmp .lt 7, 3) := dz_161 (kBcX1_knows_2 75 rfl rfl) (kBcX1_knows_2 76 rfl rfl) (kBcX1_knows_2 77 rfl rfl) rfl
theorem dX1_knows_78 : decode cX1_knows 78 = .ok (.iconst 1, 1) := dz_4 (kBcX1_knows_2 78 rfl rfl)
theorem dX1_knows_79 : decode cX1_knows 79 = .ok (.goto 4, 3) := dz_167 (kBcX1_knows_2 79 rfl rfl) (kBcX1_knows_2 80 rfl rfl) (kBcX1_knows_2 81 rfl rfl) rfl
theorem dX1_knows_82 : decode cX1_knows 82 = .ok (.iconst 0, 1) := dz_3 (kBcX1_knows_2 82 rfl rfl)
theorem dX1_knows_83 : decode cX1_knows 83 = .ok (.ireturn, 1) := dz_172 (kBcX1_knows_2 83 rfl rfl)
theorem dX1_knows_84 : decode cX1_knows 84 = .ok (.iload_n 2, 1) := dz_28 (kBcX1_knows_2 84 rfl rfl)
theorem dX1_knows_85 : decode cX1_knows 85 = .ok (.iconst 1, 1) := dz_4 (kBcX1_knows_2 85 rfl rfl)
theorem dX1_knows_86 : decode cX1_knows 86 = .ok (.if_icmp .gt 7, 3) := dz_163 (kBcX1_knows_2 86 rfl rfl) (kBcX1_knows_2 87 rfl rfl) (kBcX1_knows_2 88 rfl rfl) rfl
theorem dX1_knows_89 : decode cX1_knows 89 = .ok (.iconst 1, 1) := dz_4 (kBcX1_knows_2 89 rfl rfl)
theorem dX1_knows_90 : decode cX1_knows 90 = .ok (.goto 4, 3) := dz_167 (kBcX1_knows_2 90 rfl rfl) (kBcX1_knows_2 91 rfl rfl) (kBcX1_knows_2 92 rfl rfl) rfl
theorem dX1_knows_93 : decode cX1_knows 93 = .ok (.iconst 0, 1) := dz_3 (kBcX1_knows_2 93 rfl rfl)
theorem dX1_knows_94 : decode cX1_knows 94 = .ok (.ireturn, 1) := dz_172 (kBcX1_knows_2 94 rfl rfl)
