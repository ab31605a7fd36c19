def kCcX3_dayOfYear_0 : List Nat := [42, 27, 184, 0, 96, 154, 0, 17, 28, 184, 0, 96, 154, 0, 10, 29, 184, 0, 96, 153, 0, 7, 4, 167, 0, 4, 3, 3, 182, 0, 103, 153]
def kCcX3_dayOfYear_1 : List Nat := [0, 5, 3, 172, 42, 180, 0, 21, 27, 42, 180, 0, 18, 29, 50, 42, 180, 0, 15, 28, 46, 184, 0, 183, 83, 42, 180, 0, 21, 27, 50, 5]
def kCcX3_dayOfYear_2 : List Nat := [46, 172]
def kRcX3_dayOfYear_3 : List Nat := []
def kRcX3_dayOfYear_2 : List Nat := kCcX3_dayOfYear_2 ++ kRcX3_dayOfYear_3
def kRcX3_dayOfYear_1 : List Nat := kCcX3_dayOfYear_1 ++ kRcX3_dayOfYear_2
def kRcX3_dayOfYear_0 : List Nat := kCcX3_dayOfYear_0 ++ kRcX3_dayOfYear_1
theorem kRcX3_dayOfYear_eq : cX3_dayOfYear.data.toList.map UInt8.toNat = kRcX3_dayOfYear_0 := by decide +kernel
theorem katcX3_dayOfYear_0 (i : Nat) : (cX3_dayOfYear.data.toList.map UInt8.toNat)[0 + i]? = kRcX3_dayOfYear_0[i]? := by rw [kRcX3_dayOfYear_eq, Nat.zero_add]
theorem katcX3_dayOfYear_1 : ∀ i : Nat, (cX3_dayOfYear.data.toList.map UInt8.toNat)[32 + i]? = kRcX3_dayOfYear_1[i]? := kstep katcX3_dayOfYear_0 (C := kCcX3_dayOfYear_0) rfl rfl
theorem katcX3_dayOfYear_2 : ∀ i : Nat, (cX3_dayOfYear.data.toList.map UInt8.toNat)[64 + i]? = kRcX3_dayOfYear_2[i]? := kstep katcX3_dayOfYear_1 (C := kCcX3_dayOfYear_1) rfl rfl
theorem kBcX3_dayOfYear_0 {b : Nat} (p : Nat) (hp : Nat.ble 0 p = true) (h : kCcX3_dayOfYear_0[p - 0]? = some b) : kb cX3_dayOfYear p b := kin katcX3_dayOfYear_0 rfl hp h
theorem kBcX3_dayOfYear_1 {b : Nat} (p : Nat) (hp : Nat.ble 32 p = true) (h : kCcX3_dayOfYear_1[p - 32]? = some b) : kb cX3_dayOfYear p b := kin katcX3_dayOfYear_1 rfl hp h
theorem kBcX3_dayOfYear_2 {b : Nat} (p : Nat) (hp : Nat.ble 64 p = true) (h : kCcX3_dayOfYear_2[p - 64]? = some b) : kb cX3_dayOfYear p b := kin katcX3_dayOfYear_2 rfl hp h
theorem dX3_dayOfYear_0 : decode cX3_dayOfYear 0 = .ok (.aload_n 0, 1) := dz_42 (kBcX3_dayOfYear_0 0 rfl rfl)
theorem dX3_dayOfYear_1 : decode cX3_dayOfYear 1 = .ok (.iload_n 1, 1) := dz_27 (kBcX3_dayOfYear_0 1 rfl rfl)
theorem dX3_dayOfYear_2 : decode cX3_dayOfYear 2 = .ok (.invokestatic 96, 3) := dz_184 (kBcX3_dayOfYear_0 2 rfl rfl) (kBcX3_dayOfYear_0 3 rfl rfl) (kBcX3_dayOfYear_0 4 rfl rfl) rfl
theorem dX3_dayOfYear_5 : decode cX3_dayOfYear 5 = .ok (.ifCond .ne 17, 3) := dz_154 (kBcX3_dayOfYear_0 5 rfl rfl) (kBcX3_dayOfYear_0 6 rfl rfl) (kBcX3_dayOfYear_0 7 rfl rfl) rfl
theorem dX3_dayOfYear_8 : decode cX3_dayOfYear 8 = .ok (.iload_n 2, 1) := dz_28 (kBcX3_dayOfYear_0 8 rfl rfl)
theorem dX3_dayOfYear_9 : decode cX3_dayOfYear 9 = .ok (.invokestatic 96, 3) := dz_184 (kBcX3_dayOfYear_0 9 rfl rfl) (kBcX3_dayOfYear_0 10 rfl rfl) (kBcX3_dayOfYear_0 11 rfl rfl) rfl
theorem dX3_dayOfYear_12 : decode cX3_dayOfYear 12 = .ok (.ifCond .ne 10, 3) := dz_154 (kBcX3_dayOfYear_0 12 rfl rfl) (kBcX3_dayOfYear_0 13 rfl rfl) (kBcX3_dayOfYear_0 14 rfl rfl) rfl
theorem dX3_dayOfYear_15 : decode cX3_dayOfYear 15 = .ok (.iload_n 3, 1) := dz_29 (kBcX3_dayOfYear_0 15 rfl rfl)
theorem dX3_dayOfYear_16 : decode cX3_dayOfYear 16 = .ok (.invokestatic 96, 3) := dz_184 (kBcX3_dayOfYear_0 16 rfl rfl) (kBcX3_dayOfYear_0 17 rfl rfl) (kBcX3_dayOfYear_0 18 rfl rfl) rfl
theorem dX3_dayOfYear_19 : decode cX3_dayOfYear 19 = .ok (.ifCond .eq 7, 3) := dz_153 (kBcX3_dayOfYear_0 19 rfl rfl) (kBcX3_dayOfYear_0 20 rfl rfl) (kBcX3_dayOfYear_0 21 rfl rfl) rfl
theorem dX3_dayOfYear_22 : decode cX3_dayOfYear 22 = .ok (.iconst 1, 1) := dz_4 (kBcX3_dayOfYear_0 22 rfl rfl)
theorem dX3_dayOfYear_23 : decode cX3_dayOfYear 23 = .ok (.goto 4, 3) := dz_167 (kBcX3_dayOfYear_0 23 rfl rfl) (kBcX3_dayOfYear_0 24 rfl rfl) (kBcX3_dayOfYear_0 25 rfl rfl) rfl
theorem dX3_dayOfYear_26 : decode cX3_dayOfYear 26 = .ok (.iconst 0, 1) := dz_3 (kBcX3_dayOfYear_0 26 rfl rfl)
theorem dX3_dayOfYear_27 : decode cX3_dayOfYear 27 = .ok (.iconst 0, 1) := dz_3 (kBcX3_dayOfYear_0 27 rfl rfl)
theorem dX3_dayOfYear_28 : decode cX3_dayOfYear 28 = .ok (.invokevirtual 103, 3) := dz_182 (kBcX3_dayOfYear_0 28 rfl rfl) (kBcX3_dayOfYear_0 29 rfl rfl) (kBcX3_dayOfYear_0 30 rfl rfl) rfl
theorem dX3_dayOfYear_31 : decode cX3_dayOfYear 31 = .ok (.ifCond .eq 5, 3) := dz_153 (kBcX3_dayOfYear_0 31 rfl rfl) (kBcX3_dayOfYear_1 32 rfl rfl) (kBcX3_dayOfYear_1 33 rfl rfl) rfl
theorem dX3_dayOfYear_34 : decode cX3_dayOfYear 34 = .ok (.iconst 0, 1) := dz_3 (kBcX3_dayOfYear_1 34 rfl rfl)
theorem dX3_dayOfYear_35 : decode cX3_dayOfYear 35 = .ok (.ireturn, 1) := dz_172 (kBcX3_dayOfYear_1 35 rfl rfl)
theorem dX3_dayOfYear_36 : decode cX3_dayOfYear 36 = .ok (.aload_n 0, 1) := dz_42 (kBcX3_dayOfYear_1 36 rfl rfl)
theorem dX3_dayOfYear_37 : decode cX3_dayOfYear 37 = .ok (.getfield 21, 3) := dz_180 (kBcX3_dayOfYear_1 37 rfl rfl) (kBcX3_dayOfYear_1 38 rfl rfl) (kBcX3_dayOfYear_1 39 rfl rfl) rfl
theorem dX3_dayOfYear_40 : decode cX3_dayOfYear 40 = .ok (.iload_n 1, 1) := dz_27 (kBcX3_dayOfYear_1 40 rfl rfl)
theorem dX3_dayOfYear_41 : decode cX3_dayOfYear 41 = .ok (.aload_n 0, 1) := dz_42 (kBcX3_dayOfYear_1 41 rfl rfl)
theorem dX3_dayOfYear_42 : decode cX3_dayOfYear 42 = .ok (.getfield 18, 3) := dz_180 (kBcX3_dayOfYear_1 42 rfl rfl) (kBcX3_dayOfYear_1 43 rfl rfl) (kBcX3_dayOfYear_1 44 rfl rfl) rfl
theorem dX3_dayOfYear_45 : decode cX3_dayOfYear 45 = .ok (.iload_n 3, 1) := dz_29 (kBcX3_dayOfYear_1 45 rfl rfl)
theorem dX3_dayOfYear_46 : decode cX3_dayOfYear 46 = .ok (.aaload, 1) := dz_50 (kBcX3_dayOfYear_1 46 rfl rfl)
theorem dX3_dayOfYear_47 : decode cX3_dayOfYear 47 = .ok (.aload_n 0, 1) := dz_42 (kBcX3_dayOfYear_1 47 rfl rfl)
theorem dX3_dayOfYear_48 : decode cX3_dayOfYear 48 = .ok (.getfield 15, 3) := dz_180 (kBcX3_dayOfYear_1 48 rfl rfl) (kBcX3_dayOfYear_1 49 rfl rfl) (kBcX3_dayOfYear_1 50 rfl rfl) rfl
theorem dX3_dayOfYear_51 : decode cX3_dayOfYear 51 = .ok (.iload_n 2, 1) := dz_28 (kBcX3_dayOfYear_1 51 rfl rfl)
theorem dX3_dayOfYear_52 : decode cX3_dayOfYear 52 = .ok (.iaload, 1) := dz_46 (kBcX3_dayOfYear_1 52 rfl rfl)
theorem dX3_dayOfYear_53 : decode cX3_dayOfYear 53 = .ok (.invokestatic 183, 3) := dz_184 (kBcX3_dayOfYear_1 53 rfl rfl) (kBcX3_dayOfYear_1 54 rfl rfl) (kBcX3_dayOfYear_1 55 rfl rfl) rfl
theorem dX3_dayOfYear_56 : decode cX3_dayOfYear 56 = .ok (.aastore, 1) := dz_83 (kBcX3_dayOfYear_1 56 rfl rfl)
theorem dX3_dayOfYear_57 : decode cX3_dayOfYear 57 = .ok (.aload_n 0, 1) := dz_42 (kBcX3_dayOfYear_1 57 rfl rfl)
theorem dX3_dayOfYear_58 : decode cX3_dayOfYear 58 = .ok (.getfield 21, 3) := dz_180 (kBcX3_dayOfYear_1 58 rfl rfl) (kBcX3_dayOfYear_1 59 rfl rfl) (kBcX3_dayOfYear_1 60 rfl rfl) rfl
theorem dX3_dayOfYear_61 : decode cX3_dayOfYear 61 = .ok (.iload_n 1, 1) := dz_27 (kBcX3_dayOfYear_1 61 rfl rfl)
theorem dX3_dayOfYear_62 : decode cX3_dayOfYear 62 = .ok (.aaload, 1) := dz_50 (kBcX3_dayOfYear_1 62 rfl rfl)
theorem dX3_dayOfYear_63 : decode cX3_dayOfYear 63 = .ok (.iconst 2, 1) := dz_5 (kBcX3_dayOfYear_1 63 rfl rfl)
theorem dX3_dayOfYear_64 : decode cX3_dayOfYear 64 = .ok (.iaload, 1) := dz_46 (kBcX3_dayOfYear_2 64 rfl rfl)
theorem dX3_dayOfYear_65 : decode cX3_dayOfYear 65 = .ok (.ireturn, 1) := dz_172 (kBcX3_dayOfYear_2 65 rfl rfl)
def kCcX3_leafTold_0 : List Nat := [42, 180, 0, 9, 27, 50, 3, 46, 62, 42, 180, 0, 9, 27, 50, 4, 46, 54, 4, 16, 8, 188, 10, 89, 3, 29, 79, 89, 4, 21, 4, 79]
def kCcX3_leafTold_1 : List Nat := [89, 5, 29, 133, 21, 4, 184, 0, 55, 79, 89, 6, 29, 133, 184, 0, 148, 79, 89, 7, 29, 133, 184, 0, 44, 184, 0, 78, 79, 89, 8, 21]
def kCcX3_leafTold_2 : List Nat := [4, 79, 89, 16, 6, 29, 184, 0, 141, 79, 89, 16, 7, 29, 184, 0, 134, 79, 58, 5, 25, 5, 28, 46, 172]
def kRcX3_leafTold_3 : List Nat := []
def kRcX3_leafTold_2 : List Nat := kCcX3_leafTold_2 ++ kRcX3_leafTold_3
def kRcX3_leafTold_1 : List Nat := kCcX3_leafTold_1 ++ kRcX3_leafTold_2
def kRcX3_leafTold_0 : List Nat := kCcX3_leafTold_0 ++ kRcX3_leafTold_1
theorem kRcX3_leafTold_eq : cX3_leafTold.data.toList.map UInt8.toNat = kRcX3_leafTold_0 := by decide +kernel
theorem katcX3_leafTold_0 (i : Nat) : (cX3_leafTold.data.toList.map UInt8.toNat)[0 + i]? = kRcX3_leafTold_0[i]? := by rw [kRcX3_leafTold_eq, Nat.zero_add]
theorem katcX3_leafTold_1 : ∀ i : Nat, (cX3_leafTold.data.toList.map UInt8.toNat)[32 + i]? = kRcX3_leafTold_1[i]? := kstep katcX3_leafTold_0 (C := kCcX3_leafTold_0) rfl rfl
theorem katcX3_leafTold_2 : ∀ i : Nat, (cX3_leafTold.data.toList.map UInt8.toNat)[64 + i]? = kRcX3_leafTold_2[i]? := kstep katcX3_leafTold_1 (C := kCcX3_leafTold_1) rfl rfl
theorem kBcX3_leafTold_0 {b : Nat} (p : Nat) (hp : Nat.ble 0 p = true) (h : kCcX3_leafTold_0[p - 0]? = some b) : kb cX3_leafTold p b := kin katcX3_leafTold_0 rfl hp h
theorem kBcX3_leafTold_1 {b : Nat} (p : Nat) (hp : Nat.ble 32 p = true) (h : kCcX3_leafTold_1[p - 32]? = some b) : kb cX3_leafTold p b := kin katcX3_leafTold_1 rfl hp h
theorem kBcX3_leafTold_2 {b : Nat} (p : Nat) (hp : Nat.ble 64 p = true) (h : kCcX3_leafTold_2[p - 64]? = some b) : kb cX3_leafTold p b := kin katcX3_leafTold_2 rfl hp h
theorem dX3_leafTold_0 : decode cX3_leafTold 0 = .ok (.aload_n 0, 1) := dz_42 (kBcX3_leafTold_0 0 rfl rfl)
theorem dX3_leafTold_1 : decode cX3_leafTold 1 = .ok (.getfield 9, 3) := dz_180 (kBcX3_leafTold_0 1 rfl rfl) (kBcX3_leafTold_0 2 rfl rfl) (kBcX3_leafTold_0 3 rfl rfl) rfl
theorem dX3_leafTold_4 : decode cX3_leafTold 4 = .ok (.iload_n 1, 1) := dz_27 (kBcX3_leafTold_0 4 rfl rfl)
theorem dX3_leafTold_5 : decode cX3_leafTold 5 = .ok (.aaload, 1) := dz_50 (kBcX3_leafTold_0 5 rfl rfl)
theorem dX3_leafTold_6 : decode cX3_leafTold 6 = .ok (.iconst 0, 1) := dz_3 (kBcX3_leafTold_0 6 rfl rfl)
theorem dX3_leafTold_7 : decode cX3_leafTold 7 = .ok (.iaload, 1) := dz_46 (kBcX3_leafTold_0 7 rfl rfl)
theorem dX3_leafTold_8 : decode cX3_leafTold 8 = .ok (.istore_n 3, 1) := dz_62 (kBcX3_leafTold_0 8 rfl rfl)
theorem dX3_leafTold_9 : decode cX3_leafTold 9 = .ok (.aload_n 0, 1) := dz_42 (kBcX3_leafTold_0 9 rfl rfl)
theorem dX3_leafTold_10 : decode cX3_leafTold 10 = .ok (.getfield 9, 3) := dz_180 (kBcX3_leafTold_0 10 rfl rfl) (kBcX3_leafTold_0 11 rfl rfl) (kBcX3_leafTold_0 12 rfl rfl) rfl
theorem dX3_leafTold_13 : decode cX3_leafTold 13 = .ok (.iload_n 1, 1) := dz_27 (kBcX3_leafTold_0 13 rfl rfl)
theorem dX3_leafTold_14 : decode cX3_leafTold 14 = .ok (.aaload, 1) := dz_50 (kBcX3_leafTold_0 14 rfl rfl)
theorem dX3_leafTold_15 : decode cX3_leafTold 15 = .ok (.iconst 1, 1) := dz_4 (kBcX3_leafTold_0 15 rfl rfl)
theorem dX3_leafTold_16 : decode cX3_leafTold 16 = .ok (.iaload, 1) := dz_46 (kBcX3_leafTold_0 16 rfl rfl)
theorem dX3_leafTold_17 : decode cX3_leafTold 17 = .ok (.istore 4, 2) := dz_54 (kBcX3_leafTold_0 17 rfl rfl) (kBcX3_leafTold_0 18 rfl rfl)
theorem dX3_leafTold_19 : decode cX3_leafTold 19 = .ok (.bipush 8, 2) := dz_16 (kBcX3_leafTold_0 19 rfl rfl) (kBcX3_leafTold_0 20 rfl rfl) rfl
theorem dX3_leafTold_21 : decode cX3_leafTold 21 = .ok (.newarray .int, 2) := by decide +kernel
theorem dX3_leafTold_23 : decode cX3_leafTold 23 = .ok (.dup, 1) := dz_89 (kBcX3_leafTold_0 23 rfl rfl)
theorem dX3_leafTold_24 : decode cX3_leafTold 24 = .ok (.iconst 0, 1) := dz_3 (kBcX3_leafTold_0 24 rfl rfl)
theorem dX3_leafTold_25 : decode cX3_leafTold 25 = .ok (.iload_n 3, 1) := dz_29 (kBcX3_leafTold_0 25 rfl rfl)
theorem dX3_leafTold_26 : decode cX3_leafTold 26 = .ok (.iastore, 1) := dz_79 (kBcX3_leafTold_0 26 rfl rfl)
theorem dX3_leafTold_27 : decode cX3_leafTold 27 = .ok (.dup, 1) := dz_89 (kBcX3_leafTold_0 27 rfl rfl)
theorem dX3_leafTold_28 : decode cX3_leafTold 28 = .ok (.iconst 1, 1) := dz_4 (kBcX3_leafTold_0 28 rfl rfl)
theorem dX3_leafTold_29 : decode cX3_leafTold 29 = .ok (.iload 4, 2) := dz_21 (kBcX3_leafTold_0 29 rfl rfl) (kBcX3_leafTold_0 30 rfl rfl)
theorem dX3_leafTold_31 : decode cX3_leafTold 31 = .ok (.iastore, 1) := dz_79 (kBcX3_leafTold_0 31 rfl rfl)
theorem dX3_leafTold_32 : decode cX3_leafTold 32 = .ok (.dup, 1) := dz_89 (kBcX3_leafTold_1 32 rfl rfl)
theorem dX3_leafTold_33 : decode cX3_leafTold 33 = .ok (.iconst 2, 1) := dz_5 (kBcX3_leafTold_1 33 rfl rfl)
theorem dX3_leafTold_34 : decode cX3_leafTold 34 = .ok (.iload_n 3, 1) := dz_29 (kBcX3_leafTold_1 34 rfl rfl)
theorem dX3_leafTold_35 : decode cX3_leafTold 35 = .ok (.i2l, 1) := dz_133 (kBcX3_leafTold_1 35 rfl rfl)
theorem dX3_leafTold_36 : decode cX3_leafTold 36 = .ok (.iload 4, 2) := dz_21 (kBcX3_leafTold_1 36 rfl rfl) (kBcX3_leafTold_1 37 rfl rfl)
theorem dX3_leafTold_38 : decode cX3_leafTold 38 = .ok (.invokestatic 55, 3) := dz_184 (kBcX3_leafTold_1 38 rfl rfl) (kBcX3_leafTold_1 39 rfl rfl) (kBcX3_leafTold_1 40 rfl rfl) rfl
theorem dX3_leafTold_41 : decode cX3_leafTold 41 = .ok (.iastore, 1) := dz_79 (kBcX3_leafTold_1 41 rfl rfl)
theorem dX3_leafTold_42 : decode cX3_leafTold 42 = .ok (.dup, 1) := dz_89 (kBcX3_leafTold_1 42 rfl rfl)
theorem dX3_leafTold_43 : decode cX3_leafTold 43 = .ok (.iconst 3, 1) := dz_6 (kBcX3_leafTold_1 43 rfl rfl)
theorem dX3_leafTold_44 : decode cX3_leafTold 44 = .ok (.iload_n 3, 1) := dz_29 (kBcX3_leafTold_1 44 rfl rfl)
theorem dX3_leafTold_45 : decode cX3_leafTold 45 = .ok (.i2l, 1) := dz_133 (kBcX3_leafTold_1 45 rfl rfl)
theorem dX3_leafTold_46 : decode cX3_leafTold 46 = .ok (.invokestatic 148, 3) := dz_184 (kBcX3_leafTold_1 46 rfl rfl) (kBcX3_leafTold_1 47 rfl rfl) (kBcX3_leafTold_1 48 rfl rfl) rfl
theorem dX3_leafTold_49 : decode cX3_leafTold 49 = .ok (.iastore, 1) := dz_79 (kBcX3_leafTold_1 49 rfl rfl)
theorem dX3_leafTold_50 : decode cX3_leafTold 50 = .ok (.dup, 1) := dz_89 (kBcX3_leafTold_1 50 rfl rfl)
theorem dX3_leafTold_51 : decode cX3_leafTold 51 = .ok (.iconst 4, 1) := dz_7 (kBcX3_leafTold_1 51 rfl rfl)
theorem dX3_leafTold_52 : decode cX3_leafTold 52 = .ok (.iload_n 3, 1) := dz_29 (kBcX3_leafTold_1 52 rfl rfl)
theorem dX3_leafTold_53 : decode cX3_leafTold 53 = .ok (.i2l, 1) := dz_133 (kBcX3_leafTold_1 53 rfl rfl)
theorem dX3_leafTold_54 : decode cX3_leafTold 54 = .ok (.invokestatic 44, 3) := dz_184 (kBcX3_leafTold_1 54 rfl rfl) (kBcX3_leafTold_1 55 rfl rfl) (kBcX3_leafTold_1 56 rfl rfl) rfl
theorem dX3_leafTold_57 : decode cX3_leafTold 57 = .ok (.invokestatic 78, 3) := dz_184 (kBcX3_leafTold_1 57 rfl rfl) (kBcX3_leafTold_1 58 rfl rfl) (kBcX3_leafTold_1 59 rfl rfl) rfl
theorem dX3_leafTold_60 : decode cX3_leafTold 60 = .ok (.iastore, 1) := dz_79 (kBcX3_leafTold_1 60 rfl rfl)
theorem dX3_leafTold_61 : decode cX3_leafTold 61 = .ok (.dup, 1) := dz_89 (kBcX3_leafTold_1 61 rfl rfl)
theorem dX3_leafTold_62 : decode cX3_leafTold 62 = .ok (.iconst 5, 1) := dz_8 (kBcX3_leafTold_1 62 rfl rfl)
theorem dX3_leafTold_63 : decode cX3_leafTold 63 = .ok (.iload 4, 2) := dz_21 (kBcX3_leafTold_1 63 rfl rfl) (kBcX3_leafTold_2 64 rfl rfl)
theorem dX3_leafTold_65 : decode cX3_leafTold 65 = .ok (.iastore, 1) := dz_79 (kBcX3_leafTold_2 65 rfl rfl)
theorem dX3_leafTold_66 : decode cX3_leafTold 66 = .ok (.dup, 1) := dz_89 (kBcX3_leafTold_2 66 rfl rfl)
theorem dX3_leafTold_67 : decode cX3_leafTold 67 = .ok (.bipush 6, 2) := dz_16 (kBcX3_leafTold_2 67 rfl rfl) (kBcX3_leafTold_2 68 rfl rfl) rfl
theorem dX3_leafTold_69 : decode cX3_leafTold 69 = .ok (.iload_n 3, 1) := dz_29 (kBcX3_leafTold_2 69 rfl rfl)
theorem dX3_leafTold_70 : decode cX3_leafTold 70 = .ok (.invokestatic 141, 3) := dz_184 (kBcX3_leafTold_2 70 rfl rfl) (kBcX3_leafTold_2 71 rfl rfl) (kBcX3_leafTold_2 72 rfl rfl) rfl
theorem dX3_leafTold_73 : decode cX3_leafTold 73 = .ok (.iastore, 1) := dz_79 (kBcX3_leafTold_2 73 rfl rfl)
theorem dX3_leafTold_74 : decode cX3_leafTold 74 = .ok (.dup, 1) := dz_89 (kBcX3_leafTold_2 74 rfl rfl)
theorem dX3_leafTold_75 : decode cX3_leafTold 75 = .ok (.bipush 7, 2) := dz_16 (kBcX3_leafTold_2 75 rfl rfl) (kBcX3_leafTold_2 76 rfl rfl) rfl
theorem dX3_leafTold_77 : decode cX3_leafTold 77 = .ok (.iload_n 3, 1) := dz_29 (kBcX3_leafTold_2 77 rfl rfl)
theorem dX3_leafTold_78 : decode cX3_leafTold 78 = .ok (.invokestatic 134, 3) := dz_184 (kBcX3_leafTold_2 78 rfl rfl) (kBcX3_leafTold_2 79 rfl rfl) (kBcX3_leafTold_2 80 rfl rfl) rfl
theorem dX3_leafTold_81 : decode cX3_leafTold 81 = .ok (.iastore, 1) := dz_79 (kBcX3_leafTold_2 81 rfl rfl)
theorem dX3_leafTold_82 : decode cX3_leafTold 82 = .ok (.astore 5, 2) := dz_58 (kBcX3_leafTold_2 82 rfl rfl) (kBcX3_leafTold_2 83 rfl rfl)
theorem dX3_leafTold_84 : decode cX3_leafTold 84 = .ok (.aload 5, 2) := dz_25 (kBcX3_leafTold_2 84 rfl rfl) (kBcX3_leafTold_2 85 rfl rfl)
theorem dX3_leafTold_86 : decode cX3_leafTold 86 = .ok (.iload_n 2, 1) := dz_28 (kBcX3_leafTold_2 86 rfl rfl)
theorem dX3_leafTold_87 : decode cX3_leafTold 87 = .ok (.iaload, 1) := dz_46 (kBcX3_leafTold_2 87 rfl rfl)
theorem dX3_leafTold_88 : decode cX3_leafTold 88 = .ok (.ireturn, 1) := dz_172 (kBcX3_leafTold_2 88 rfl rfl)
def kCcX3_ofLeaf_0 : List Nat := [42, 27, 184, 0, 96, 28, 133, 9, 20, 0, 187, 184, 0, 30, 154, 0, 7, 4, 167, 0, 4, 3, 182, 0, 103, 153, 0, 7, 3, 167, 0, 9]
def kCcX3_ofLeaf_1 : List Nat := [42, 27, 28, 182, 0, 189, 172]
def kRcX3_ofLeaf_2 : List Nat := []
def kRcX3_ofLeaf_1 : List Nat := kCcX3_ofLeaf_1 ++ kRcX3_ofLeaf_2
def kRcX3_ofLeaf_0 : List Nat := kCcX3_ofLeaf_0 ++ kRcX3_ofLeaf_1
theorem kRcX3_ofLeaf_eq : cX3_ofLeaf.data.toList.map UInt8.toNat = kRcX3_ofLeaf_0 := by decide +kernel
theorem katcX3_ofLeaf_0 (i : Nat) : (cX3_ofLeaf.data.toList.map UInt8.toNat)[0 + i]? = kRcX3_ofLeaf_0[i]? := by rw [kRcX3_ofLeaf_eq, Nat.zero_add]
theorem katcX3_ofLeaf_1 : ∀ i : Nat, (cX3_ofLeaf.data.toList.map UInt8.toNat)[32 + i]? = kRcX3_ofLeaf_1[i]? := kstep katcX3_ofLeaf_0 (C := kCcX3_ofLeaf_0) rfl rfl
theorem kBcX3_ofLeaf_0 {b : Nat} (p : Nat) (hp : Nat.ble 0 p = true) (h : kCcX3_ofLeaf_0[p - 0]? = some b) : kb cX3_ofLeaf p b := kin katcX3_ofLeaf_0 rfl hp h
theorem kBcX3_ofLeaf_1 {b : Nat} (p : Nat) (hp : Nat.ble 32 p = true) (h : kCcX3_ofLeaf_1[p - 32]? = some b) : kb cX3_ofLeaf p b := kin katcX3_ofLeaf_1 rfl hp h
theorem dX3_ofLeaf_0 : decode cX3_ofLeaf 0 = .ok (.aload_n 0, 1) := dz_42 (kBcX3_ofLeaf_0 0 rfl rfl)
theorem dX3_ofLeaf_1 : decode cX3_ofLeaf 1 = .ok (.iload_n 1, 1) := dz_27 (kBcX3_ofLeaf_0 1 rfl rfl)
theorem dX3_ofLeaf_2 : decode cX3_ofLeaf 2 = .ok (.invokestatic 96, 3) := dz_184 (kBcX3_ofLeaf_0 2 rfl rfl) (kBcX3_ofLeaf_0 3 rfl rfl) (kBcX3_ofLeaf_0 4 rfl rfl) rfl
theorem dX3_ofLeaf_5 : decode cX3_ofLeaf 5 = .ok (.iload_n 2, 1) := dz_28 (kBcX3_ofLeaf_0 5 rfl rfl)
theorem dX3_ofLeaf_6 : decode cX3_ofLeaf 6 = .ok (.i2l, 1) := dz_133 (kBcX3_ofLeaf_0 6 rfl rfl)
theorem dX3_ofLeaf_7 : decode cX3_ofLeaf 7 = .ok (.lconst 0, 1) := dz_9 (kBcX3_ofLeaf_0 7 rfl rfl)
theorem dX3_ofLeaf_8 : decode cX3_ofLeaf 8 = .ok (.ldc2_w 187, 3) := dz_20 (kBcX3_ofLeaf_0 8 rfl rfl) (kBcX3_ofLeaf_0 9 rfl rfl) (kBcX3_ofLeaf_0 10 rfl rfl) rfl
theorem dX3_ofLeaf_11 : decode cX3_ofLeaf 11 = .ok (.invokestatic 30, 3) := dz_184 (kBcX3_ofLeaf_0 11 rfl rfl) (kBcX3_ofLeaf_0 12 rfl rfl) (kBcX3_ofLeaf_0 13 rfl rfl) rfl
theorem dX3_ofLeaf_14 : decode cX3_ofLeaf 14 = .ok (.ifCond .ne 7, 3) := dz_154 (kBcX3_ofLeaf_0 14 rfl rfl) (kBcX3_ofLeaf_0 15 rfl rfl) (kBcX3_ofLeaf_0 16 rfl rfl) rfl
theorem dX3_ofLeaf_17 : decode cX3_ofLeaf 17 = .ok (.iconst 1, 1) := dz_4 (kBcX3_ofLeaf_0 17 rfl rfl)
theorem dX3_ofLeaf_18 : decode cX3_ofLeaf 18 = .ok (.goto 4, 3) := dz_167 (kBcX3_ofLeaf_0 18 rfl rfl) (kBcX3_ofLeaf_0 19 rfl rfl) (kBcX3_ofLeaf_0 20 rfl rfl) rfl
theorem dX3_ofLeaf_21 : decode cX3_ofLeaf 21 = .ok (.iconst 0, 1) := dz_3 (kBcX3_ofLeaf_0 21 rfl rfl)
theorem dX3_ofLeaf_22 : decode cX3_ofLeaf 22 = .ok (.invokevirtual 103, 3) := dz_182 (kBcX3_ofLeaf_0 22 rfl rfl) (kBcX3_ofLeaf_0 23 rfl rfl) (kBcX3_ofLeaf_0 24 rfl rfl) rfl
theorem dX3_ofLeaf_25 : decode cX3_ofLeaf 25 = .ok (.ifCond .eq 7, 3) := dz_153 (kBcX3_ofLeaf_0 25 rfl rfl) (kBcX3_ofLeaf_0 26 rfl rfl) (kBcX3_ofLeaf_0 27 rfl rfl) rfl
theorem dX3_ofLeaf_28 : decode cX3_ofLeaf 28 = .ok (.iconst 0, 1) := dz_3 (kBcX3_ofLeaf_0 28 rfl rfl)
theorem dX3_ofLeaf_29 : decode cX3_ofLeaf 29 = .ok (.goto 9, 3) := dz_167 (kBcX3_ofLeaf_0 29 rfl rfl) (kBcX3_ofLeaf_0 30 rfl rfl) (kBcX3_ofLeaf_0 31 rfl rfl) rfl
theorem dX3_ofLeaf_32 : decode cX3_ofLeaf 32 = .ok (.aload_n 0, 1) := dz_42 (kBcX3_ofLeaf_1 32 rfl rfl)
theorem dX3_ofLeaf_33 : decode cX3_ofLeaf 33 = .ok (.iload_n 1, 1) := dz_27 (kBcX3_ofLeaf_1 33 rfl rfl)
theorem dX3_ofLeaf_34 : decode cX3_ofLeaf 34 = .ok (.iload_n 2, 1) := dz_28 (kBcX3_ofLeaf_1 34 rfl rfl)
theorem dX3_ofLeaf_35 : decode cX3_ofLeaf 35 = .ok (.invokevirtual 189, 3) := dz_182 (kBcX3_ofLeaf_1 35 rfl rfl) (kBcX3_ofLeaf_1 36 rfl rfl) (kBcX3_ofLeaf_1 37 rfl rfl) rfl
theorem dX3_ofLeaf_38 : decode cX3_ofLeaf 38 = .ok (.ireturn, 1) := dz_172 (kBcX3_ofLeaf_1 38 rfl rfl)
def kCcX3_count_0 : List Nat := [42, 27, 184, 0, 96, 3, 182, 0, 103, 153, 0, 8, 18, 192, 167, 0, 30, 187, 0, 194, 89, 183, 0, 196, 18, 192, 182, 0, 197, 42, 180, 0]
def kCcX3_count_1 : List Nat := [9, 27, 50, 184, 0, 110, 182, 0, 201, 182, 0, 204, 176]
def kRcX3_count_2 : List Nat := []
def kRcX3_count_1 : List Nat := kCcX3_count_1 ++ kRcX3_count_2
def kRcX3_count_0 : List Nat := kCcX3_count_0 ++ kRcX3_count_1
theorem kRcX3_count_eq : cX3_count.data.toList.map UInt8.toNat = kRcX3_count_0 := by decide +kernel
theorem katcX3_count_0 (i : Nat) : (cX3_count.data.toList.map UInt8.toNat)[0 + i]? = kRcX3_count_0[i]? := by rw [kRcX3_count_eq, Nat.zero_add]
theorem katcX3_count_1 : ∀ i : Nat, (cX3_count.data.toList.map UInt8.toNat)[32 + i]? = kRcX3_count_1[i]? := kstep katcX3_count_0 (C := kCcX3_count_0) rfl rfl
theorem kBcX3_count_0 {b : Nat} (p : Nat) (hp : Nat.ble 0 p = true) (h : kCcX3_count_0[p - 0]? = some b) : kb cX3_count p b := kin katcX3_count_0 rfl hp h
theorem kBcX3_count_1 {b : Nat} (p : Nat) (hp : Nat.ble 32 p = true) (h : kCcX3_count_1[p - 32]? = some b) : kb cX3_count p b := kin katcX3_count_1 rfl hp h
theorem dX3_count_0 : decode cX3_count 0 = .ok (.aload_n 0, 1) := dz_42 (kBcX3_count_0 0 rfl rfl)
theorem dX3_count_1 : decode cX3_count 1 = .ok (.iload_n 1, 1) := dz_27 (kBcX3_count_0 1 rfl rfl)
theorem dX3_count_2 : decode cX3_count 2 = .ok (.invokestatic 96, 3) := dz_184 (kBcX3_count_0 2 rfl rfl) (kBcX3_count_0 3 rfl rfl) (kBcX3_count_0 4 rfl rfl) rfl
theorem dX3_count_5 : decode cX3_count 5 = .ok (.iconst 0, 1) := dz_3 (kBcX3_count_0 5 rfl rfl)
theorem dX3_count_6 : decode cX3_count 6 = .ok (.invokevirtual 103, 3) := dz_182 (kBcX3_count_0 6 rfl rfl) (kBcX3_count_0 7 rfl rfl) (kBcX3_count_0 8 rfl rfl) rfl
theorem dX3_count_9 : decode cX3_count 9 = .ok (.ifCond .eq 8, 3) := dz_153 (kBcX3_count_0 9 rfl rfl) (kBcX3_count_0 10 rfl rfl) (kBcX3_count_0 11 rfl rfl) rfl
theorem dX3_count_12 : decode cX3_count 12 = .ok (.ldc 192, 2) := dz_18 (kBcX3_count_0 12 rfl rfl) (kBcX3_count_0 13 rfl rfl)
theorem dX3_count_14 : decode cX3_count 14 = .ok (.goto 30, 3) := dz_167 (kBcX3_count_0 14 rfl rfl) (kBcX3_count_0 15 rfl rfl) (kBcX3_count_0 16 rfl rfl) rfl
theorem dX3_count_17 : decode cX3_count 17 = .ok (.new 194, 3) := dz_187 (kBcX3_count_0 17 rfl rfl) (kBcX3_count_0 18 rfl rfl) (kBcX3_count_0 19 rfl rfl) rfl
theorem dX3_count_20 : decode cX3_count 20 = .ok (.dup, 1) := dz_89 (kBcX3_count_0 20 rfl rfl)
theorem dX3_count_21 : decode cX3_count 21 = .ok (.invokespecial 196, 3) := dz_183 (kBcX3_count_0 21 rfl rfl) (kBcX3_count_0 22 rfl rfl) (kBcX3_count_0 23 rfl rfl) rfl
theorem dX3_count_24 : decode cX3_count 24 = .ok (.ldc 192, 2) := dz_18 (kBcX3_count_0 24 rfl rfl) (kBcX3_count_0 25 rfl rfl)
theorem dX3_count_26 : decode cX3_count 26 = .ok (.invokevirtual 197, 3) := dz_182 (kBcX3_count_0 26 rfl rfl) (kBcX3_count_0 27 rfl rfl) (kBcX3_count_0 28 rfl rfl) rfl
theorem dX3_count_29 : decode cX3_count 29 = .ok (.aload_n 0, 1) := dz_42 (kBcX3_count_0 29 rfl rfl)
theorem dX3_count_30 : decode cX3_count 30 = .ok (.getfield 9, 3) := dz_180 (kBcX3_count_0 30 rfl rfl) (kBcX3_count_0 31 rfl rfl) (kBcX3_count_1 32 rfl rfl) rfl
theorem dX3_count_33 : decode cX3_count 33 = .ok (.iload_n 1, 1) := dz_27 (kBcX3_count_1 33 rfl rfl)
theorem dX3_count_34 : decode cX3_count 34 = .ok (.aaload, 1) := dz_50 (kBcX3_count_1 34 rfl rfl)
theorem dX3_count_35 : decode cX3_count 35 = .ok (.invokestatic 110, 3) := dz_184 (kBcX3_count_1 35 rfl rfl) (kBcX3_count_1 36 rfl rfl) (kBcX3_count_1 37 rfl rfl) rfl
theorem dX3_count_38 : decode cX3_count 38 = .ok (.invokevirtual 201, 3) := dz_182 (kBcX3_count_1 38 rfl rfl) (kBcX3_count_1 39 rfl rfl) (kBcX3_count_1 40 rfl rfl) rfl
theorem dX3_count_41 : decode cX3_count 41 = .ok (.invokevirtual 204, 3) := dz_182 (kBcX3_count_1 41 rfl rfl) (kBcX3_count_1 42 rfl rfl) (kBcX3_count_1 43 rfl rfl) rfl
theorem dX3_count_44 : decode cX3_count 44 = .ok (.areturn, 1) := dz_176 (kBcX3_count_1 44 rfl rfl)
def kCcX3_hasDay_0 : List Nat := [42, 27, 184, 0, 96, 3, 182, 0, 103, 154, 0, 22, 28, 133, 10, 42, 27, 182, 0, 86, 133, 184, 0, 30, 153, 0, 7, 4, 167, 0, 4, 3]
def kCcX3_hasDay_1 : List Nat := [172]
def kRcX3_hasDay_2 : List Nat := []
def kRcX3_hasDay_1 : List Nat := kCcX3_hasDay_1 ++ kRcX3_hasDay_2
def kRcX3_hasDay_0 : List Nat := kCcX3_hasDay_0 ++ kRcX3_hasDay_1
theorem kRcX3_hasDay_eq : cX3_hasDay.data.toList.map UInt8.toNat = kRcX3_hasDay_0 := by decide +kernel
theorem katcX3_hasDay_0 (i : Nat) : (cX3_hasDay.data.toList.map UInt8.toNat)[0 + i]? = kRcX3_hasDay_0[i]? := by rw [kRcX3_hasDay_eq, Nat.zero_add]
theorem katcX3_hasDay_1 : ∀ i : Nat, (cX3_hasDay.data.toList.map UInt8.toNat)[32 + i]? = kRcX3_hasDay_1[i]? := kstep katcX3_hasDay_0 (C := kCcX3_hasDay_0) rfl rfl
theorem kBcX3_hasDay_0 {b : Nat} (p : Nat) (hp : Nat.ble 0 p = true) (h : kCcX3_hasDay_0[p - 0]? = some b) : kb cX3_hasDay p b := kin katcX3_hasDay_0 rfl hp h
theorem kBcX3_hasDay_1 {b : Nat} (p : Nat) (hp : Nat.ble 32 p = true) (h : kCcX3_hasDay_1[p - 32]? = some b) : kb cX3_hasDay p b := kin katcX3_hasDay_1 rfl hp h
theorem dX3_hasDay_0 : decode cX3_hasDay 0 = .ok (.aload_n 0, 1) := dz_42 (kBcX3_hasDay_0 0 rfl rfl)
theorem dX3_hasDay_1 : decode cX3_hasDay 1 = .ok (.iload_n 1, 1) := dz_27 (kBcX3_hasDay_0 1 rfl rfl)
theorem dX3_hasDay_2 : decode cX3_hasDay 2 = .ok (.invokestatic 96, 3) := dz_184 (kBcX3_hasDay_0 2 rfl rfl) (kBcX3_hasDay_0 3 rfl rfl) (kBcX3_hasDay_0 4 rfl rfl) rfl
theorem dX3_hasDay_5 : decode cX3_hasDay 5 = .ok (.iconst 0, 1) := dz_3 (kBcX3_hasDay_0 5 rfl rfl)
theorem dX3_hasDay_6 : decode cX3_hasDay 6 = .ok (.invokevirtual 103, 3) := dz_182 (kBcX3_hasDay_0 6 rfl rfl) (kBcX3_hasDay_0 7 rfl rfl) (kBcX3_hasDay_0 8 rfl rfl) rfl
theorem dX3_hasDay_9 : decode cX3_hasDay 9 = .ok (.ifCond .ne 22, 3) := dz_154 (kBcX3_hasDay_0 9 rfl rfl) (kBcX3_hasDay_0 10 rfl rfl) (kBcX3_hasDay_0 11 rfl rfl) rfl
theorem dX3_hasDay_12 : decode cX3_hasDay 12 = .ok (.iload_n 2, 1) := dz_28 (kBcX3_hasDay_0 12 rfl rfl)
theorem dX3_hasDay_13 : decode cX3_hasDay 13 = .ok (.i2l, 1) := dz_133 (kBcX3_hasDay_0 13 rfl rfl)
theorem dX3_hasDay_14 : decode cX3_hasDay 14 = .ok (.lconst 1, 1) := dz_10 (kBcX3_hasDay_0 14 rfl rfl)
theorem dX3_hasDay_15 : decode cX3_hasDay 15 = .ok (.aload_n 0, 1) := dz_42 (kBcX3_hasDay_0 15 rfl rfl)
theorem dX3_hasDay_16 : decode cX3_hasDay 16 = .ok (.iload_n 1, 1) := dz_27 (kBcX3_hasDay_0 16 rfl rfl)
theorem dX3_hasDay_17 : decode cX3_hasDay 17 = .ok (.invokevirtual 86, 3) := dz_182 (kBcX3_hasDay_0 17 rfl rfl) (kBcX3_hasDay_0 18 rfl rfl) (kBcX3_hasDay_0 19 rfl rfl) rfl
theorem dX3_hasDay_20 : decode cX3_hasDay 20 = .ok (.i2l, 1) := dz_133 (kBcX3_hasDay_0 20 rfl rfl)
theorem dX3_hasDay_21 : decode cX3_hasDay 21 = .ok (.invokestatic 30, 3) := dz_184 (kBcX3_hasDay_0 21 rfl rfl) (kBcX3_hasDay_0 22 rfl rfl) (kBcX3_hasDay_0 23 rfl rfl) rfl
theorem dX3_hasDay_24 : decode cX3_hasDay 24 = .ok (.ifCond .eq 7, 3) := dz_153 (kBcX3_hasDay_0 24 rfl rfl) (kBcX3_hasDay_0 25 rfl rfl) (kBcX3_hasDay_0 26 rfl rfl) rfl
theorem dX3_hasDay_27 : decode cX3_hasDay 27 = .ok (.iconst 1, 1) := dz_4 (kBcX3_hasDay_0 27 rfl rfl)
theorem dX3_hasDay_28 : decode cX3_hasDay 28 = .ok (.goto 4, 3) := dz_167 (kBcX3_hasDay_0 28 rfl rfl) (kBcX3_hasDay_0 29 rfl rfl) (kBcX3_hasDay_0 30 rfl rfl) rfl
theorem dX3_hasDay_31 : decode cX3_hasDay 31 = .ok (.iconst 0, 1) := dz_3 (kBcX3_hasDay_0 31 rfl rfl)
theorem dX3_hasDay_32 : decode cX3_hasDay 32 = .ok (.ireturn, 1) := dz_172 (kBcX3_hasDay_1 32 rfl rfl)
def kCcX3_order_0 : List Nat := [30, 32, 148, 156, 0, 7, 2, 167, 0, 17, 30, 32, 148, 158, 0, 7, 4, 167, 0, 4, 3, 184, 0, 78, 54, 5, 21, 4, 154, 0, 8, 21]
def kCcX3_order_1 : List Nat := [5, 167, 0, 35, 21, 4, 4, 160, 0, 16, 21, 5, 156, 0, 7, 4, 167, 0, 17, 3, 167, 0, 13, 21, 5, 158, 0, 7, 4, 167, 0, 4]
def kCcX3_order_2 : List Nat := [3, 184, 0, 78, 172]
def kRcX3_order_3 : List Nat := []
def kRcX3_order_2 : List Nat := kCcX3_order_2 ++ kRcX3_order_3
def kRcX3_order_1 : List Nat := kCcX3_order_1 ++ kRcX3_order_2
def kRcX3_order_0 : List Nat := kCcX3_order_0 ++ kRcX3_order_1
theorem kRcX3_order_eq : cX3_order.data.toList.map UInt8.toNat = kRcX3_order_0 := by decide +kernel
theorem katcX3_order_0 (i : Nat) : (cX3_order.data.toList.map UInt8.toNat)[0 + i]? = kRcX3_order_0[i]? := by rw [kRcX3_order_eq, Nat.zero_add]
theorem katcX3_order_1 : ∀ i : Nat, (cX3_order.data.toList.map UInt8.toNat)[32 + i]? = kRcX3_order_1[i]? := kstep katcX3_order_0 (C := kCcX3_order_0) rfl rfl
theorem katcX3_order_2 : ∀ i : Nat, (cX3_order.data.toList.map UInt8.toNat)[64 + i]? = kRcX3_order_2[i]? := kstep katcX3_order_1 (C := kCcX3_order_1) rfl rfl
theorem kBcX3_order_0 {b : Nat} (p : Nat) (hp : Nat.ble 0 p = true) (h : kCcX3_order_0[p - 0]? = some b) : kb cX3_order p b := kin katcX3_order_0 rfl hp h
theorem kBcX3_order_1 {b : Nat} (p : Nat) (hp : Nat.ble 32 p = true) (h : kCcX3_order_1[p - 32]? = some b) : kb cX3_order p b := kin katcX3_order_1 rfl hp h
theorem kBcX3_order_2 {b : Nat} (p : Nat) (hp : Nat.ble 64 p = true) (h : kCcX3_order_2[p - 64]? = some b) : kb cX3_order p b := kin katcX3_order_2 rfl hp h
theorem dX3_order_0 : decode cX3_order 0 = .ok (.lload_n 0, 1) := dz_30 (kBcX3_order_0 0 rfl rfl)
theorem dX3_order_1 : decode cX3_order 1 = .ok (.lload_n 2, 1) := dz_32 (kBcX3_order_0 1 rfl rfl)
theorem dX3_order_2 : decode cX3_order 2 = .ok (.lcmp, 1) := dz_148 (kBcX3_order_0 2 rfl rfl)
theorem dX3_order_3 : decode cX3_order 3 = .ok (.ifCond .ge 7, 3) := dz_156 (kBcX3_order_0 3 rfl rfl) (kBcX3_order_0 4 rfl rfl) (kBcX3_order_0 5 rfl rfl) rfl
theorem dX3_order_6 : decode cX3_order 6 = .ok (.iconst (-1), 1) := dz_2 (kBcX3_order_0 6 rfl rfl)
theorem dX3_order_7 : decode cX3_order 7 = .ok (.goto 17, 3) := dz_167 (kBcX3_order_0 7 rfl rfl) (kBcX3_order_0 8 rfl rfl) (kBcX3_order_0 9 rfl rfl) rfl
theorem dX3_order_10 : decode cX3_order 10 = .ok (.lload_n 0, 1) := dz_30 (kBcX3_order_0 10 rfl rfl)
theorem dX3_order_11 : decode cX3_order 11 = .ok (.lload_n 2, 1) := dz_32 (kBcX3_order_0 11 rfl rfl)
theorem dX3_order_12 : decode cX3_order 12 = .ok (.lcmp, 1) := dz_148 (kBcX3_order_0 12 rfl rfl)
theorem dX3_order_13 : decode cX3_order 13 = .ok (.ifCond .le 7, 3) := dz_158 (kBcX3_order_0 13 rfl rfl) (kBcX3_order_0 14 rfl rfl) (kBcX3_order_0 15 rfl rfl) rfl
theorem dX3_order_16 : decode cX3_order 16 = .ok (.iconst 1, 1) := dz_4 (kBcX3_order_0 16 rfl rfl)
theorem dX3_order_17 : decode cX3_order 17 = .ok (.goto 4, 3) := dz_167 (kBcX3_order_0 17 rfl rfl) (kBcX3_order_0 18 rfl rfl) (kBcX3_order_0 19 rfl rfl) rfl
theorem dX3_order_20 : decode cX3_order 20 = .ok (.iconst 0, 1) := dz_3 (kBcX3_order_0 20 rfl rfl)
theorem dX3_order_21 : decode cX3_order 21 = .ok (.invokestatic 78, 3) := dz_184 (kBcX3_order_0 21 rfl rfl) (kBcX3_order_0 22 rfl rfl) (kBcX3_order_0 23 rfl rfl) rfl
theorem dX3_order_24 : decode cX3_order 24 = .ok (.istore 5, 2) := dz_54 (kBcX3_order_0 24 rfl rfl) (kBcX3_order_0 25 rfl rfl)
theorem dX3_order_26 : decode cX3_order 26 = .ok (.iload 4, 2) := dz_21 (kBcX3_order_0 26 rfl rfl) (kBcX3_order_0 27 rfl rfl)
theorem dX3_order_28 : decode cX3_order 28 = .ok (.ifCond .ne 8, 3) := dz_154 (kBcX3_order_0 28 rfl rfl) (kBcX3_order_0 29 rfl rfl) (kBcX3_order_0 30 rfl rfl) rfl
theorem dX3_order_31 : decode cX3_order 31 = .ok (.iload 5, 2) := dz_21 (kBcX3_order_0 31 rfl rfl) (kBcX3_order_1 32 rfl rfl)
theorem dX3_order_33 : decode cX3_order 33 = .ok (.goto 35, 3) := dz_167 (kBcX3_order_1 33 rfl rfl) (kBcX3_order_1 34 rfl rfl) (kBcX3_order_1 35 rfl rfl) rfl
theorem dX3_order_36 : decode cX3_order 36 = .ok (.iload 4, 2) := dz_21 (kBcX3_order_1 36 rfl rfl) (kBcX3_order_1 37 rfl rfl)
theorem dX3_order_38 : decode cX3_order 38 = .ok (.iconst 1, 1) := dz_4 (kBcX3_order_1 38 rfl rfl)
theorem dX3_order_39 : decode cX3_order 39 = .ok (.if_icmp .ne 16, 3) := dz_160 (kBcX3_order_1 39 rfl rfl) (kBcX3_order_1 40 rfl rfl) (kBcX3_order_1 41 rfl rfl) rfl
theorem dX3_order_42 : decode cX3_order 42 = .ok (.iload 5, 2) := dz_21 (kBcX3_order_1 42 rfl rfl) (kBcX3_order_1 43 rfl rfl)
theorem dX3_order_44 : decode cX3_order 44 = .ok (.ifCond .ge 7, 3) := dz_156 (kBcX3_order_1 44 rfl rfl) (kBcX3_order_1 45 rfl rfl) (kBcX3_order_1 46 rfl rfl) rfl
theorem dX3_order_47 : decode cX3_order 47 = .ok (.iconst 1, 1) := dz_4 (kBcX3_order_1 47 rfl rfl)
theorem dX3_order_48 : decode cX3_order 48 = .ok (.goto 17, 3) := dz_167 (kBcX3_order_1 48 rfl rfl) (kBcX3_order_1 49 rfl rfl) (kBcX3_order_1 50 rfl rfl) rfl
theorem dX3_order_51 : decode cX3_order 51 = .ok (.iconst 0, 1) := dz_3 (kBcX3_order_1 51 rfl rfl)
theorem dX3_order_52 : decode cX3_order 52 = .ok (.goto 13, 3) := dz_167 (kBcX3_order_1 52 rfl rfl) (kBcX3_order_1 53 rfl rfl) (kBcX3_order_1 54 rfl rfl) rfl
theorem dX3_order_55 : decode cX3_order 55 = .ok (.iload 5, 2) := dz_21 (kBcX3_order_1 55 rfl rfl) (kBcX3_order_1 56 rfl rfl)
theorem dX3_order_57 : decode cX3_order 57 = .ok (.ifCond .le 7, 3) := dz_158 (kBcX3_order_1 57 rfl rfl) (kBcX3_order_1 58 rfl rfl) (kBcX3_order_1 59 rfl rfl) rfl
theorem dX3_order_60 : decode cX3_order 60 = .ok (.iconst 1, 1) := dz_4 (kBcX3_order_1 60 rfl rfl)
theorem dX3_order_61 : decode cX3_order 61 = .ok (.goto 4, 3) := dz_167 (kBcX3_order_1 61 rfl rfl) (kBcX3_order_1 62 rfl rfl) (kBcX3_order_1 63 rfl rfl) rfl
theorem dX3_order_64 : decode cX3_order 64 = .ok (.iconst 0, 1) := dz_3 (kBcX3_order_2 64 rfl rfl)
theorem dX3_order_65 : decode cX3_order 65 = .ok (.invokestatic 78, 3) := dz_184 (kBcX3_order_2 65 rfl rfl) (kBcX3_order_2 66 rfl rfl) (kBcX3_order_2 67 rfl rfl) rfl
theorem dX3_order_68 : decode cX3_order 68 = .ok (.ireturn, 1) := dz_172 (kBcX3_order_2 68 rfl rfl)
def kCcX3_isNoOrder_0 : List Nat := [26, 133, 9, 20, 0, 155, 184, 0, 30, 154, 0, 7, 4, 167, 0, 4, 3, 172]
theorem kRcX3_isNoOrder_eq : cX3_isNoOrder.data.toList.map UInt8.toNat = kCcX3_isNoOrder_0 := by decide +kernel
theorem dX3_isNoOrder_0 : decode cX3_isNoOrder 0 = .ok (.iload_n 0, 1) := dz_26 (kin0 (p := 0) kRcX3_isNoOrder_eq rfl)
theorem dX3_isNoOrder_1 : decode cX3_isNoOrder 1 = .ok (.i2l, 1) := dz_133 (kin0 (p := 1) kRcX3_isNoOrder_eq rfl)
theorem dX3_isNoOrder_2 : decode cX3_isNoOrder 2 = .ok (.lconst 0, 1) := dz_9 (kin0 (p := 2) kRcX3_isNoOrder_eq rfl)
theorem dX3_isNoOrder_3 : decode cX3_isNoOrder 3 = .ok (.ldc2_w 155, 3) := dz_20 (kin0 (p := 3) kRcX3_isNoOrder_eq rfl) (kin0 (p := 4) kRcX3_isNoOrder_eq rfl) (kin0 (p := 5) kRcX3_isNoOrder_eq rfl) rfl
theorem dX3_isNoOrder_6 : decode cX3_isNoOrder 6 = .ok (.invokestatic 30, 3) := dz_184 (kin0 (p := 6) kRcX3_isNoOrder_eq rfl) (kin0 (p := 7) kRcX3_isNoOrder_eq rfl) (kin0 (p := 8) kRcX3_isNoOrder_eq rfl) rfl
theorem dX3_isNoOrder_9 : decode cX3_isNoOrder 9 = .ok (.ifCond .ne 7, 3) := dz_154 (kin0 (p := 9) kRcX3_isNoOrder_eq rfl) (kin0 (p := 10) kRcX3_isNoOrder_eq rfl) (kin0 (p := 11) kRcX3_isNoOrder_eq rfl) rfl
theorem dX3_isNoOrder_12 : decode cX3_isNoOrder 12 = .ok (.iconst 1, 1) := dz_4 (kin0 (p := 12) kRcX3_isNoOrder_eq rfl)
theorem dX3_isNoOrder_13 : decode cX3_isNoOrder 13 = .ok (.goto 4, 3) := dz_167 (kin0 (p := 13) kRcX3_isNoOrder_eq rfl) (kin0 (p := 14) kRcX3_isNoOrder_eq rfl) (kin0 (p := 15) kRcX3_isNoOrder_eq rfl) rfl
theorem dX3_isNoOrder_16 : decode cX3_isNoOrder 16 = .ok (.iconst 0, 1) := dz_3 (kin0 (p := 16) kRcX3_isNoOrder_eq rfl)
theorem dX3_isNoOrder_17 : decode cX3_isNoOrder 17 = .ok (.ireturn, 1) := dz_172 (kin0 (p := 17) kRcX3_isNoOrder_eq rfl)
def kCcX3_leafOrder_0 : List Nat := [42, 27, 184, 0, 96, 154, 0, 10, 28, 184, 0, 96, 153, 0, 7, 4, 167, 0, 4, 3, 29, 184, 0, 208, 182, 0, 103, 153, 0, 7, 3, 167]
def kCcX3_leafOrder_1 : List Nat := [0, 25, 42, 180, 0, 9, 27, 50, 184, 0, 110, 42, 180, 0, 9, 28, 50, 184, 0, 110, 29, 184, 0, 211, 172]
def kRcX3_leafOrder_2 : List Nat := []
def kRcX3_leafOrder_1 : List Nat := kCcX3_leafOrder_1 ++ kRcX3_leafOrder_2
def kRcX3_leafOrder_0 : List Nat := kCcX3_leafOrder_0 ++ kRcX3_leafOrder_1
theorem kRcX3_leafOrder_eq : cX3_leafOrder.data.toList.map UInt8.toNat = kRcX3_leafOrder_0 := by decide +kernel
theorem katcX3_leafOrder_0 (i : Nat) : (cX3_leafOrder.data.toList.map UInt8.toNat)[0 + i]? = kRcX3_leafOrder_0[i]? := by rw [kRcX3_leafOrder_eq, Nat.zero_add]
theorem katcX3_leafOrder_1 : ∀ i : Nat, (cX3_leafOrder.data.toList.map UInt8.toNat)[32 + i]? = kRcX3_leafOrder_1[i]? := kstep katcX3_leafOrder_0 (C := kCcX3_leafOrder_0) rfl rfl
theorem kBcX3_leafOrder_0 {b : Nat} (p : Nat) (hp : Nat.ble 0 p = true) (h : kCcX3_leafOrder_0[p - 0]? = some b) : kb cX3_leafOrder p b := kin katcX3_leafOrder_0 rfl hp h
theorem kBcX3_leafOrder_1 {b : Nat} (p : Nat) (hp : Nat.ble 32 p = true) (h : kCcX3_leafOrder_1[p - 32]? = some b) : kb cX3_leafOrder p b := kin katcX3_leafOrder_1 rfl hp h
theorem dX3_leafOrder_0 : decode cX3_leafOrder 0 = .ok (.aload_n 0, 1) := dz_42 (kBcX3_leafOrder_0 0 rfl rfl)
theorem dX3_leafOrder_1 : decode cX3_leafOrder 1 = .ok (.iload_n 1, 1) := dz_27 (kBcX3_leafOrder_0 1 rfl rfl)
theorem dX3_leafOrder_2 : decode cX3_leafOrder 2 = .ok (.invokestatic 96, 3) := dz_184 (kBcX3_leafOrder_0 2 rfl rfl) (kBcX3_leafOrder_0 3 rfl rfl) (kBcX3_leafOrder_0 4 rfl rfl) rfl
theorem dX3_leafOrder_5 : decode cX3_leafOrder 5 = .ok (.ifCond .ne 10, 3) := dz_154 (kBcX3_leafOrder_0 5 rfl rfl) (kBcX3_leafOrder_0 6 rfl rfl) (kBcX3_leafOrder_0 7 rfl rfl) rfl
theorem dX3_leafOrder_8 : decode cX3_leafOrder 8 = .ok (.iload_n 2, 1) := dz_28 (kBcX3_leafOrder_0 8 rfl rfl)
theorem dX3_leafOrder_9 : decode cX3_leafOrder 9 = .ok (.invokestatic 96, 3) := dz_184 (kBcX3_leafOrder_0 9 rfl rfl) (kBcX3_leafOrder_0 10 rfl rfl) (kBcX3_leafOrder_0 11 rfl rfl) rfl
theorem dX3_leafOrder_12 : decode cX3_leafOrder 12 = .ok (.ifCond .eq 7, 3) := dz_153 (kBcX3_leafOrder_0 12 rfl rfl) (kBcX3_leafOrder_0 13 rfl rfl) (kBcX3_leafOrder_0 14 rfl rfl) rfl
theorem dX3_leafOrder_15 : decode cX3_leafOrder 15 = .ok (.iconst 1, 1) := dz_4 (kBcX3_leafOrder_0 15 rfl rfl)
theorem dX3_leafOrder_16 : decode cX3_leafOrder 16 = .ok (.goto 4, 3) := dz_167 (kBcX3_leafOrder_0 16 rfl rfl) (kBcX3_leafOrder_0 17 rfl rfl) (kBcX3_leafOrder_0 18 rfl rfl) rfl
theorem dX3_leafOrder_19 : decode cX3_leafOrder 19 = .ok (.iconst 0, 1) := dz_3 (kBcX3_leafOrder_0 19 rfl rfl)
theorem dX3_leafOrder_20 : decode cX3_leafOrder 20 = .ok (.iload_n 3, 1) := dz_29 (kBcX3_leafOrder_0 20 rfl rfl)
theorem dX3_leafOrder_21 : decode cX3_leafOrder 21 = .ok (.invokestatic 208, 3) := dz_184 (kBcX3_leafOrder_0 21 rfl rfl) (kBcX3_leafOrder_0 22 rfl rfl) (kBcX3_leafOrder_0 23 rfl rfl) rfl
theorem dX3_leafOrder_24 : decode cX3_leafOrder 24 = .ok (.invokevirtual 103, 3) := dz_182 (kBcX3_leafOrder_0 24 rfl rfl) (kBcX3_leafOrder_0 25 rfl rfl) (kBcX3_leafOrder_0 26 rfl rfl) rfl
theorem dX3_leafOrder_27 : decode cX3_leafOrder 27 = .ok (.ifCond .eq 7, 3) := dz_153 (kBcX3_leafOrder_0 27 rfl rfl) (kBcX3_leafOrder_0 28 rfl rfl) (kBcX3_leafOrder_0 29 rfl rfl) rfl
theorem dX3_leafOrder_30 : decode cX3_leafOrder 30 = .ok (.iconst 0, 1) := dz_3 (kBcX3_leafOrder_0 30 rfl rfl)
theorem dX3_leafOrder_31 : decode cX3_leafOrder 31 = .ok (.goto 25, 3) := dz_167 (kBcX3_leafOrder_0 31 rfl rfl) (kBcX3_leafOrder_1 32 rfl rfl) (kBcX3_leafOrder_1 33 rfl rfl) rfl
theorem dX3_leafOrder_34 : decode cX3_leafOrder 34 = .ok (.aload_n 0, 1) := dz_42 (kBcX3_leafOrder_1 34 rfl rfl)
theorem dX3_leafOrder_35 : decode cX3_leafOrder 35 = .ok (.getfield 9, 3) := dz_180 (kBcX3_leafOrder_1 35 rfl rfl) (kBcX3_leafOrder_1 36 rfl rfl) (kBcX3_leafOrder_1 37 rfl rfl) rfl
theorem dX3_leafOrder_38 : decode cX3_leafOrder 38 = .ok (.iload_n 1, 1) := dz_27 (kBcX3_leafOrder_1 38 rfl rfl)
theorem dX3_leafOrder_39 : decode cX3_leafOrder 39 = .ok (.aaload, 1) := dz_50 (kBcX3_leafOrder_1 39 rfl rfl)
theorem dX3_leafOrder_40 : decode cX3_leafOrder 40 = .ok (.invokestatic 110, 3) := dz_184 (kBcX3_leafOrder_1 40 rfl rfl) (kBcX3_leafOrder_1 41 rfl rfl) (kBcX3_leafOrder_1 42 rfl rfl) rfl
theorem dX3_leafOrder_43 : decode cX3_leafOrder 43 = .ok (.aload_n 0, 1) := dz_42 (kBcX3_leafOrder_1 43 rfl rfl)
theorem dX3_leafOrder_44 : decode cX3_leafOrder 44 = .ok (.getfield 9, 3) := dz_180 (kBcX3_leafOrder_1 44 rfl rfl) (kBcX3_leafOrder_1 45 rfl rfl) (kBcX3_leafOrder_1 46 rfl rfl) rfl
theorem dX3_leafOrder_47 : decode cX3_leafOrder 47 = .ok (.iload_n 2, 1) := dz_28 (kBcX3_leafOrder_1 47 rfl rfl)
theorem dX3_leafOrder_48 : decode cX3_leafOrder 48 = .ok (.aaload, 1) := dz_50 (kBcX3_leafOrder_1 48 rfl rfl)
theorem dX3_leafOrder_49 : decode cX3_leafOrder 49 = .ok (.invokestatic 110, 3) := dz_184 (kBcX3_leafOrder_1 49 rfl rfl) (kBcX3_leafOrder_1 50 rfl rfl) (kBcX3_leafOrder_1 51 rfl rfl) rfl
theorem dX3_leafOrder_52 : decode cX3_leafOrder 52 = .ok (.iload_n 3, 1) := dz_29 (kBcX3_leafOrder_1 52 rfl rfl)
theorem dX3_leafOrder_53 : decode cX3_leafOrder 53 = .ok (.invokestatic 211, 3) := dz_184 (kBcX3_leafOrder_1 53 rfl rfl) (kBcX3_leafOrder_1 54 rfl rfl) (kBcX3_leafOrder_1 55 rfl rfl) rfl
theorem dX3_leafOrder_56 : decode cX3_leafOrder 56 = .ok (.ireturn, 1) := dz_172 (kBcX3_leafOrder_1 56 rfl rfl)
def kCcX3_failsSame_0 : List Nat := [42, 27, 184, 0, 96, 154, 0, 10, 29, 184, 0, 96, 153, 0, 7, 4, 167, 0, 4, 3, 28, 133, 9, 20, 0, 121, 184, 0, 30, 154, 0, 7]
def kCcX3_failsSame_1 : List Nat := [4, 167, 0, 4, 3, 182, 0, 103, 172]
def kRcX3_failsSame_2 : List Nat := []
def kRcX3_failsSame_1 : List Nat := kCcX3_failsSame_1 ++ kRcX3_failsSame_2
def kRcX3_failsSame_0 : List Nat := kCcX3_failsSame_0 ++ kRcX3_failsSame_1
theorem kRcX3_failsSame_eq : cX3_failsSame.data.toList.map UInt8.toNat = kRcX3_failsSame_0 := by decide +kernel
theorem katcX3_failsSame_0 (i : Nat) : (cX3_failsSame.data.toList.map UInt8.toNat)[0 + i]? = kRcX3_failsSame_0[i]? := by rw [kRcX3_failsSame_eq, Nat.zero_add]
theorem katcX3_failsSame_1 : ∀ i : Nat, (cX3_failsSame.data.toList.map UInt8.toNat)[32 + i]? = kRcX3_failsSame_1[i]? := kstep katcX3_failsSame_0 (C := kCcX3_failsSame_0) rfl rfl
theorem kBcX3_failsSame_0 {b : Nat} (p : Nat) (hp : Nat.ble 0 p = true) (h : kCcX3_failsSame_0[p - 0]? = some b) : kb cX3_failsSame p b := kin katcX3_failsSame_0 rfl hp h
theorem kBcX3_failsSame_1 {b : Nat} (p : Nat) (hp : Nat.ble 32 p = true) (h : kCcX3_failsSame_1[p - 32]? = some b) : kb cX3_failsSame p b := kin katcX3_failsSame_1 rfl hp h
theorem dX3_failsSame_0 : decode cX3_failsSame 0 = .ok (.aload_n 0, 1) := dz_42 (kBcX3_failsSame_0 0 rfl rfl)
theorem dX3_failsSame_1 : decode cX3_failsSame 1 = .ok (.iload_n 1, 1) := dz_27 (kBcX3_failsSame_0 1 rfl rfl)
theorem dX3_failsSame_2 : decode cX3_failsSame 2 = .ok (.invokestatic 96, 3) := dz_184 (kBcX3_failsSame_0 2 rfl rfl) (kBcX3_failsSame_0 3 rfl rfl) (kBcX3_failsSame_0 4 rfl rfl) rfl
theorem dX3_failsSame_5 : decode cX3_failsSame 5 = .ok (.ifCond .ne 10, 3) := dz_154 (kBcX3_failsSame_0 5 rfl rfl) (kBcX3_failsSame_0 6 rfl rfl) (kBcX3_failsSame_0 7 rfl rfl) rfl
theorem dX3_failsSame_8 : decode cX3_failsSame 8 = .ok (.iload_n 3, 1) := dz_29 (kBcX3_failsSame_0 8 rfl rfl)
theorem dX3_failsSame_9 : decode cX3_failsSame 9 = .ok (.invokestatic 96, 3) := dz_184 (kBcX3_failsSame_0 9 rfl rfl) (kBcX3_failsSame_0 10 rfl rfl) (kBcX3_failsSame_0 11 rfl rfl) rfl
theorem dX3_failsSame_12 : decode cX3_failsSame 12 = .ok (.ifCond .eq 7, 3) := dz_153 (kBcX3_failsSame_0 12 rfl rfl) (kBcX3_failsSame_0 13 rfl rfl) (kBcX3_failsSame_0 14 rfl rfl) rfl
theorem dX3_failsSame_15 : decode cX3_failsSame 15 = .ok (.iconst 1, 1) := dz_4 (kBcX3_failsSame_0 15 rfl rfl)
theorem dX3_failsSame_16 : decode cX3_failsSame 16 = .ok (.goto 4, 3) := dz_167 (kBcX3_failsSame_0 16 rfl rfl) (kBcX3_failsSame_0 17 rfl rfl) (kBcX3_failsSame_0 18 rfl rfl) rfl
theorem dX3_failsSame_19 : decode cX3_failsSame 19 = .ok (.iconst 0, 1) := dz_3 (kBcX3_failsSame_0 19 rfl rfl)
theorem dX3_failsSame_20 : decode cX3_failsSame 20 = .ok (.iload_n 2, 1) := dz_28 (kBcX3_failsSame_0 20 rfl rfl)
theorem dX3_failsSame_21 : decode cX3_failsSame 21 = .ok (.i2l, 1) := dz_133 (kBcX3_failsSame_0 21 rfl rfl)
theorem dX3_failsSame_22 : decode cX3_failsSame 22 = .ok (.lconst 0, 1) := dz_9 (kBcX3_failsSame_0 22 rfl rfl)
theorem dX3_failsSame_23 : decode cX3_failsSame 23 = .ok (.ldc2_w 121, 3) := dz_20 (kBcX3_failsSame_0 23 rfl rfl) (kBcX3_failsSame_0 24 rfl rfl) (kBcX3_failsSame_0 25 rfl rfl) rfl
theorem dX3_failsSame_26 : decode cX3_failsSame 26 = .ok (.invokestatic 30, 3) := dz_184 (kBcX3_failsSame_0 26 rfl rfl) (kBcX3_failsSame_0 27 rfl rfl) (kBcX3_failsSame_0 28 rfl rfl) rfl
theorem dX3_failsSame_29 : decode cX3_failsSame 29 = .ok (.ifCond .ne 7, 3) := dz_154 (kBcX3_failsSame_0 29 rfl rfl) (kBcX3_failsSame_0 30 rfl rfl) (kBcX3_failsSame_0 31 rfl rfl) rfl
theorem dX3_failsSame_32 : decode cX3_failsSame 32 = .ok (.iconst 1, 1) := dz_4 (kBcX3_failsSame_1 32 rfl rfl)
theorem dX3_failsSame_33 : decode cX3_failsSame 33 = .ok (.goto 4, 3) := dz_167 (kBcX3_failsSame_1 33 rfl rfl) (kBcX3_failsSame_1 34 rfl rfl) (kBcX3_failsSame_1 35 rfl rfl) rfl
theorem dX3_failsSame_36 : decode cX3_failsSame 36 = .ok (.iconst 0, 1) := dz_3 (kBcX3_failsSame_1 36 rfl rfl)
theorem dX3_failsSame_37 : decode cX3_failsSame 37 = .ok (.invokevirtual 103, 3) := dz_182 (kBcX3_failsSame_1 37 rfl rfl) (kBcX3_failsSame_1 38 rfl rfl) (kBcX3_failsSame_1 39 rfl rfl) rfl
theorem dX3_failsSame_40 : decode cX3_failsSame 40 = .ok (.ireturn, 1) := dz_172 (kBcX3_failsSame_1 40 rfl rfl)
def kCcX3_isLeaf_0 : List Nat := [42, 27, 28, 29, 182, 0, 215, 154, 0, 29, 28, 154, 0, 25, 42, 180, 0, 9, 27, 50, 42, 180, 0, 9, 29, 50, 184, 0, 144, 153, 0, 7]
def kCcX3_isLeaf_1 : List Nat := [4, 167, 0, 4, 3, 172]
def kRcX3_isLeaf_2 : List Nat := []
def kRcX3_isLeaf_1 : List Nat := kCcX3_isLeaf_1 ++ kRcX3_isLeaf_2
def kRcX3_isLeaf_0 : List Nat := kCcX3_isLeaf_0 ++ kRcX3_isLeaf_1
theorem kRcX3_isLeaf_eq : cX3_isLeaf.data.toList.map UInt8.toNat = kRcX3_isLeaf_0 := by decide +kernel
theorem katcX3_isLeaf_0 (i : Nat) : (cX3_isLeaf.data.toList.map UInt8.toNat)[0 + i]? = kRcX3_isLeaf_0[i]? := by rw [kRcX3_isLeaf_eq, Nat.zero_add]
theorem katcX3_isLeaf_1 : ∀ i : Nat, (cX3_isLeaf.data.toList.map UInt8.toNat)[32 + i]? = kRcX3_isLeaf_1[i]? := kstep katcX3_isLeaf_0 (C := kCcX3_isLeaf_0) rfl rfl
theorem kBcX3_isLeaf_0 {b : Nat} (p : Nat) (hp : Nat.ble 0 p = true) (h : kCcX3_isLeaf_0[p - 0]? = some b) : kb cX3_isLeaf p b := kin katcX3_isLeaf_0 rfl hp h
theorem kBcX3_isLeaf_1 {b : Nat} (p : Nat) (hp : Nat.ble 32 p = true) (h : kCcX3_isLeaf_1[p - 32]? = some b) : kb cX3_isLeaf p b := kin katcX3_isLeaf_1 rfl hp h
theorem dX3_isLeaf_0 : decode cX3_isLeaf 0 = .ok (.aload_n 0, 1) := dz_42 (kBcX3_isLeaf_0 0 rfl rfl)
theorem dX3_isLeaf_1 : decode cX3_isLeaf 1 = .ok (.iload_n 1, 1) := dz_27 (kBcX3_isLeaf_0 1 rfl rfl)
theorem dX3_isLeaf_2 : decode cX3_isLeaf 2 = .ok (.iload_n 2, 1) := dz_28 (kBcX3_isLeaf_0 2 rfl rfl)
theorem dX3_isLeaf_3 : decode cX3_isLeaf 3 = .ok (.iload_n 3, 1) := dz_29 (kBcX3_isLeaf_0 3 rfl rfl)
theorem dX3_isLeaf_4 : decode cX3_isLeaf 4 = .ok (.invokevirtual 215, 3) := dz_182 (kBcX3_isLeaf_0 4 rfl rfl) (kBcX3_isLeaf_0 5 rfl rfl) (kBcX3_isLeaf_0 6 rfl rfl) rfl
theorem dX3_isLeaf_7 : decode cX3_isLeaf 7 = .ok (.ifCond .ne 29, 3) := dz_154 (kBcX3_isLeaf_0 7 rfl rfl) (kBcX3_isLeaf_0 8 rfl rfl) (kBcX3_isLeaf_0 9 rfl rfl) rfl
theorem dX3_isLeaf_10 : decode cX3_isLeaf 10 = .ok (.iload_n 2, 1) := dz_28 (kBcX3_isLeaf_0 10 rfl rfl)
theorem dX3_isLeaf_11 : decode cX3_isLeaf 11 = .ok (.ifCond .ne 25, 3) := dz_154 (kBcX3_isLeaf_0 11 rfl rfl) (kBcX3_isLeaf_0 12 rfl rfl) (kBcX3_isLeaf_0 13 rfl rfl) rfl
theorem dX3_isLeaf_14 : decode cX3_isLeaf 14 = .ok (.aload_n 0, 1) := dz_42 (kBcX3_isLeaf_0 14 rfl rfl)
theorem dX3_isLeaf_15 : decode cX3_isLeaf 15 = .ok (.getfield 9, 3) := dz_180 (kBcX3_isLeaf_0 15 rfl rfl) (kBcX3_isLeaf_0 16 rfl rfl) (kBcX3_isLeaf_0 17 rfl rfl) rfl
theorem dX3_isLeaf_18 : decode cX3_isLeaf 18 = .ok (.iload_n 1, 1) := dz_27 (kBcX3_isLeaf_0 18 rfl rfl)
theorem dX3_isLeaf_19 : decode cX3_isLeaf 19 = .ok (.aaload, 1) := dz_50 (kBcX3_isLeaf_0 19 rfl rfl)
theorem dX3_isLeaf_20 : decode cX3_isLeaf 20 = .ok (.aload_n 0, 1) := dz_42 (kBcX3_isLeaf_0 20 rfl rfl)
theorem dX3_isLeaf_21 : decode cX3_isLeaf 21 = .ok (.getfield 9, 3) := dz_180 (kBcX3_isLeaf_0 21 rfl rfl) (kBcX3_isLeaf_0 22 rfl rfl) (kBcX3_isLeaf_0 23 rfl rfl) rfl
theorem dX3_isLeaf_24 : decode cX3_isLeaf 24 = .ok (.iload_n 3, 1) := dz_29 (kBcX3_isLeaf_0 24 rfl rfl)
theorem dX3_isLeaf_25 : decode cX3_isLeaf 25 = .ok (.aaload, 1) := dz_50 (kBcX3_isLeaf_0 25 rfl rfl)
theorem dX3_isLeaf_26 : decode cX3_isLeaf 26 = .ok (.invokestatic 144, 3) := dz_184 (kBcX3_isLeaf_0 26 rfl rfl) (kBcX3_isLeaf_0 27 rfl rfl) (kBcX3_isLeaf_0 28 rfl rfl) rfl
theorem dX3_isLeaf_29 : decode cX3_isLeaf 29 = .ok (.ifCond .eq 7, 3) := dz_153 (kBcX3_isLeaf_0 29 rfl rfl) (kBcX3_isLeaf_0 30 rfl rfl) (kBcX3_isLeaf_0 31 rfl rfl) rfl
theorem dX3_isLeaf_32 : decode cX3_isLeaf 32 = .ok (.iconst 1, 1) := dz_4 (kBcX3_isLeaf_1 32 rfl rfl)
theorem dX3_isLeaf_33 : decode cX3_isLeaf 33 = .ok (.goto 4, 3) := dz_167 (kBcX3_isLeaf_1 33 rfl rfl) (kBcX3_isLeaf_1 34 rfl rfl) (kBcX3_isLeaf_1 35 rfl rfl) rfl
theorem dX3_isLeaf_36 : decode cX3_isLeaf 36 = .ok (.iconst 0, 1) := dz_3 (kBcX3_isLeaf_1 36 rfl rfl)
theorem dX3_isLeaf_37 : decode cX3_isLeaf 37 = .ok (.ireturn, 1) := dz_172 (kBcX3_isLeaf_1 37 rfl rfl)
def kCcX3_leafToNow_0 : List Nat := [187, 0, 194, 89, 183, 0, 196, 18, 192, 182, 0, 197, 42, 180, 0, 9, 28, 50, 184, 0, 110, 42, 180, 0, 9, 27, 50, 184, 0, 110, 101, 178]
def kCcX3_leafToNow_1 : List Nat := [0, 123, 29, 46, 133, 109, 182, 0, 201, 182, 0, 204, 176]
def kRcX3_leafToNow_2 : List Nat := []
def kRcX3_leafToNow_1 : List Nat := kCcX3_leafToNow_1 ++ kRcX3_leafToNow_2
def kRcX3_leafToNow_0 : List Nat := kCcX3_leafToNow_0 ++ kRcX3_leafToNow_1
theorem kRcX3_leafToNow_eq : cX3_leafToNow.data.toList.map UInt8.toNat = kRcX3_leafToNow_0 := by decide +kernel
theorem katcX3_leafToNow_0 (i : Nat) : (cX3_leafToNow.data.toList.map UInt8.toNat)[0 + i]? = kRcX3_leafToNow_0[i]? := by rw [kRcX3_leafToNow_eq, Nat.zero_add]
theorem katcX3_leafToNow_1 : ∀ i : Nat, (cX3_leafToNow.data.toList.map UInt8.toNat)[32 + i]? = kRcX3_leafToNow_1[i]? := kstep katcX3_leafToNow_0 (C := kCcX3_leafToNow_0) rfl rfl
theorem kBcX3_leafToNow_0 {b : Nat} (p : Nat) (hp : Nat.ble 0 p = true) (h : kCcX3_leafToNow_0[p - 0]? = some b) : kb cX3_leafToNow p b := kin katcX3_leafToNow_0 rfl hp h
theorem kBcX3_leafToNow_1 {b : Nat} (p : Nat) (hp : Nat.ble 32 p = true) (h : kCcX3_leafToNow_1[p - 32]? = some b) : kb cX3_leafToNow p b := kin katcX3_leafToNow_1 rfl hp h
theorem dX3_leafToNow_0 : decode cX3_leafToNow 0 = .ok (.new 194, 3) := dz_187 (kBcX3_leafToNow_0 0 rfl rfl) (kBcX3_leafToNow_0 1 rfl rfl) (kBcX3_leafToNow_0 2 rfl rfl) rfl
theorem dX3_leafToNow_3 : decode cX3_leafToNow 3 = .ok (.dup, 1) := dz_89 (kBcX3_leafToNow_0 3 rfl rfl)
theorem dX3_leafToNow_4 : decode cX3_leafToNow 4 = .ok (.invokespecial 196, 3) := dz_183 (kBcX3_leafToNow_0 4 rfl rfl) (kBcX3_leafToNow_0 5 rfl rfl) (kBcX3_leafToNow_0 6 rfl rfl) rfl
theorem dX3_leafToNow_7 : decode cX3_leafToNow 7 = .ok (.ldc 192, 2) := dz_18 (kBcX3_leafToNow_0 7 rfl rfl) (kBcX3_leafToNow_0 8 rfl rfl)
theorem dX3_leafToNow_9 : decode cX3_leafToNow 9 = .ok (.invokevirtual 197, 3) := dz_182 (kBcX3_leafToNow_0 9 rfl rfl) (kBcX3_leafToNow_0 10 rfl rfl) (kBcX3_leafToNow_0 11 rfl rfl) rfl
theorem dX3_leafToNow_12 : decode cX3_leafToNow 12 = .ok (.aload_n 0, 1) := dz_42 (kBcX3_leafToNow_0 12 rfl rfl)
theorem dX3_leafToNow_13 : decode cX3_leafToNow 13 = .ok (.getfield 9, 3) := dz_180 (kBcX3_leafToNow_0 13 rfl rfl) (kBcX3_leafToNow_0 14 rfl rfl) (kBcX3_leafToNow_0 15 rfl rfl) rfl
theorem dX3_leafToNow_16 : decode cX3_leafToNow 16 = .ok (.iload_n 2, 1) := dz_28 (kBcX3_leafToNow_0 16 rfl rfl)
theorem dX3_leafToNow_17 : decode cX3_leafToNow 17 = .ok (.aaload, 1) := dz_50 (kBcX3_leafToNow_0 17 rfl rfl)
theorem dX3_leafToNow_18 : decode cX3_leafToNow 18 = .ok (.invokestatic 110, 3) := dz_184 (kBcX3_leafToNow_0 18 rfl rfl) (kBcX3_leafToNow_0 19 rfl rfl) (kBcX3_leafToNow_0 20 rfl rfl) rfl
theorem dX3_leafToNow_21 : decode cX3_leafToNow 21 = .ok (.aload_n 0, 1) := dz_42 (kBcX3_leafToNow_0 21 rfl rfl)
theorem dX3_leafToNow_22 : decode cX3_leafToNow 22 = .ok (.getfield 9, 3) := dz_180 (kBcX3_leafToNow_0 22 rfl rfl) (kBcX3_leafToNow_0 23 rfl rfl) (kBcX3_leafToNow_0 24 rfl rfl) rfl
theorem dX3_leafToNow_25 : decode cX3_leafToNow 25 = .ok (.iload_n 1, 1) := dz_27 (kBcX3_leafToNow_0 25 rfl rfl)
theorem dX3_leafToNow_26 : decode cX3_leafToNow 26 = .ok (.aaload, 1) := dz_50 (kBcX3_leafToNow_0 26 rfl rfl)
theorem dX3_leafToNow_27 : decode cX3_leafToNow 27 = .ok (.invokestatic 110, 3) := dz_184 (kBcX3_leafToNow_0 27 rfl rfl) (kBcX3_leafToNow_0 28 rfl rfl) (kBcX3_leafToNow_0 29 rfl rfl) rfl
theorem dX3_leafToNow_30 : decode cX3_leafToNow 30 = .ok (.lsub, 1) := dz_101 (kBcX3_leafToNow_0 30 rfl rfl)
theorem dX3_leafToNow_31 : decode cX3_leafToNow 31 = .ok (.getstatic 123, 3) := dz_178 (kBcX3_leafToNow_0 31 rfl rfl) (kBcX3_leafToNow_1 32 rfl rfl) (kBcX3_leafToNow_1 33 rfl rfl) rfl
theorem dX3_leafToNow_34 : decode cX3_leafToNow 34 = .ok (.iload_n 3, 1) := dz_29 (kBcX3_leafToNow_1 34 rfl rfl)
theorem dX3_leafToNow_35 : decode cX3_leafToNow 35 = .ok (.iaload, 1) := dz_46 (kBcX3_leafToNow_1 35 rfl rfl)
theorem dX3_leafToNow_36 : decode cX3_leafToNow 36 = .ok (.i2l, 1) := dz_133 (kBcX3_leafToNow_1 36 rfl rfl)
theorem dX3_leafToNow_37 : decode cX3_leafToNow 37 = .ok (.ldiv, 1) := dz_109 (kBcX3_leafToNow_1 37 rfl rfl)
theorem dX3_leafToNow_38 : decode cX3_leafToNow 38 = .ok (.invokevirtual 201, 3) := dz_182 (kBcX3_leafToNow_1 38 rfl rfl) (kBcX3_leafToNow_1 39 rfl rfl) (kBcX3_leafToNow_1 40 rfl rfl) rfl
theorem dX3_leafToNow_41 : decode cX3_leafToNow 41 = .ok (.invokevirtual 204, 3) := dz_182 (kBcX3_leafToNow_1 41 rfl rfl) (kBcX3_leafToNow_1 42 rfl rfl) (kBcX3_leafToNow_1 43 rfl rfl) rfl
theorem dX3_leafToNow_44 : decode cX3_leafToNow 44 = .ok (.areturn, 1) := dz_176 (kBcX3_leafToNow_1 44 rfl rfl)
def kCcX3_leafTo_0 : List Nat := [42, 27, 184, 0, 96, 154, 0, 10, 28, 184, 0, 96, 153, 0, 7, 4, 167, 0, 4, 3, 29, 133, 9, 20, 0, 121, 184, 0, 30, 154, 0, 7]
def kCcX3_leafTo_1 : List Nat := [4, 167, 0, 4, 3, 182, 0, 103, 153, 0, 8, 18, 192, 167, 0, 10, 42, 27, 28, 29, 182, 0, 218, 176]
def kRcX3_leafTo_2 : List Nat := []
def kRcX3_leafTo_1 : List Nat := kCcX3_leafTo_1 ++ kRcX3_leafTo_2
def kRcX3_leafTo_0 : List Nat := kCcX3_leafTo_0 ++ kRcX3_leafTo_1
theorem kRcX3_leafTo_eq : cX3_leafTo.data.toList.map UInt8.toNat = kRcX3_leafTo_0 := by decide +kernel
theorem katcX3_leafTo_0 (i : Nat) : (cX3_leafTo.data.toList.map UInt8.toNat)[0 + i]? = kRcX3_leafTo_0[i]? := by rw [kRcX3_leafTo_eq, Nat.zero_add]
theorem katcX3_leafTo_1 : ∀ i : Nat, (cX3_leafTo.data.toList.map UInt8.toNat)[32 + i]? = kRcX3_leafTo_1[i]? := kstep katcX3_leafTo_0 (C := kCcX3_leafTo_0) rfl rfl
theorem kBcX3_leafTo_0 {b : Nat} (p : Nat) (hp : Nat.ble 0 p = true) (h : kCcX3_leafTo_0[p - 0]? = some b) : kb cX3_leafTo p b := kin katcX3_leafTo_0 rfl hp h
theorem kBcX3_leafTo_1 {b : Nat} (p : Nat) (hp : Nat.ble 32 p = true) (h : kCcX3_leafTo_1[p - 32]? = some b) : kb cX3_leafTo p b := kin katcX3_leafTo_1 rfl hp h
theorem dX3_leafTo_0 : decode cX3_leafTo 0 = .ok (.aload_n 0, 1) := dz_42 (kBcX3_leafTo_0 0 rfl rfl)
theorem dX3_leafTo_1 : decode cX3_leafTo 1 = .ok (.iload_n 1, 1) := dz_27 (kBcX3_leafTo_0 1 rfl rfl)
theorem dX3_leafTo_2 : decode cX3_leafTo 2 = .ok (.invokestatic 96, 3) := dz_184 (kBcX3_leafTo_0 2 rfl rfl) (kBcX3_leafTo_0 3 rfl rfl) (kBcX3_leafTo_0 4 rfl rfl) rfl
theorem dX3_leafTo_5 : decode cX3_leafTo 5 = .ok (.ifCond .ne 10, 3) := dz_154 (kBcX3_leafTo_0 5 rfl rfl) (kBcX3_leafTo_0 6 rfl rfl) (kBcX3_leafTo_0 7 rfl rfl) rfl
theorem dX3_leafTo_8 : decode cX3_leafTo 8 = .ok (.iload_n 2, 1) := dz_28 (kBcX3_leafTo_0 8 rfl rfl)
theorem dX3_leafTo_9 : decode cX3_leafTo 9 = .ok (.invokestatic 96, 3) := dz_184 (kBcX3_leafTo_0 9 rfl rfl) (kBcX3_leafTo_0 10 rfl rfl) (kBcX3_leafTo_0 11 rfl rfl) rfl
theorem dX3_leafTo_12 : decode cX3_leafTo 12 = .ok (.ifCond .eq 7, 3) := dz_153 (kBcX3_leafTo_0 12 rfl rfl) (kBcX3_leafTo_0 13 rfl rfl) (kBcX3_leafTo_0 14 rfl rfl) rfl
theorem dX3_leafTo_15 : decode cX3_leafTo 15 = .ok (.iconst 1, 1) := dz_4 (kBcX3_leafTo_0 15 rfl rfl)
theorem dX3_leafTo_16 : decode cX3_leafTo 16 = .ok (.goto 4, 3) := dz_167 (kBcX3_leafTo_0 16 rfl rfl) (kBcX3_leafTo_0 17 rfl rfl) (kBcX3_leafTo_0 18 rfl rfl) rfl
theorem dX3_leafTo_19 : decode cX3_leafTo 19 = .ok (.iconst 0, 1) := dz_3 (kBcX3_leafTo_0 19 rfl rfl)
theorem dX3_leafTo_20 : decode cX3_leafTo 20 = .ok (.iload_n 3, 1) := dz_29 (kBcX3_leafTo_0 20 rfl rfl)
theorem dX3_leafTo_21 : decode cX3_leafTo 21 = .ok (.i2l, 1) := dz_133 (kBcX3_leafTo_0 21 rfl rfl)
theorem dX3_leafTo_22 : decode cX3_leafTo 22 = .ok (.lconst 0, 1) := dz_9 (kBcX3_leafTo_0 22 rfl rfl)
theorem dX3_leafTo_23 : decode cX3_leafTo 23 = .ok (.ldc2_w 121, 3) := dz_20 (kBcX3_leafTo_0 23 rfl rfl) (kBcX3_leafTo_0 24 rfl rfl) (kBcX3_leafTo_0 25 rfl rfl) rfl
theorem dX3_leafTo_26 : decode cX3_leafTo 26 = .ok (.invokestatic 30, 3) := dz_184 (kBcX3_leafTo_0 26 rfl rfl) (kBcX3_leafTo_0 27 rfl rfl) (kBcX3_leafTo_0 28 rfl rfl) rfl
theorem dX3_leafTo_29 : decode cX3_leafTo 29 = .ok (.ifCond .ne 7, 3) := dz_154 (kBcX3_leafTo_0 29 rfl rfl) (kBcX3_leafTo_0 30 rfl rfl) (kBcX3_leafTo_0 31 rfl rfl) rfl
theorem dX3_leafTo_32 : decode cX3_leafTo 32 = .ok (.iconst 1, 1) := dz_4 (kBcX3_leafTo_1 32 rfl rfl)
theorem dX3_leafTo_33 : decode cX3_leafTo 33 = .ok (.goto 4, 3) := dz_167 (kBcX3_leafTo_1 33 rfl rfl) (kBcX3_leafTo_1 34 rfl rfl) (kBcX3_leafTo_1 35 rfl rfl) rfl
theorem dX3_leafTo_36 : decode cX3_leafTo 36 = .ok (.iconst 0, 1) := dz_3 (kBcX3_leafTo_1 36 rfl rfl)
theorem dX3_leafTo_37 : decode cX3_leafTo 37 = .ok (.invokevirtual 103, 3) := dz_182 (kBcX3_leafTo_1 37 rfl rfl) (kBcX3_leafTo_1 38 rfl rfl) (kBcX3_leafTo_1 39 rfl rfl) rfl
theorem dX3_leafTo_40 : decode cX3_leafTo 40 = .ok (.ifCond .eq 8, 3) := dz_153 (kBcX3_leafTo_1 40 rfl rfl) (kBcX3_leafTo_1 41 rfl rfl) (kBcX3_leafTo_1 42 rfl rfl) rfl
theorem dX3_leafTo_43 : decode cX3_leafTo 43 = .ok (.ldc 192, 2) := dz_18 (kBcX3_leafTo_1 43 rfl rfl) (kBcX3_leafTo_1 44 rfl rfl)
theorem dX3_leafTo_45 : decode cX3_leafTo 45 = .ok (.goto 10, 3) := dz_167 (kBcX3_leafTo_1 45 rfl rfl) (kBcX3_leafTo_1 46 rfl rfl) (kBcX3_leafTo_1 47 rfl rfl) rfl
theorem dX3_leafTo_48 : decode cX3_leafTo 48 = .ok (.aload_n 0, 1) := dz_42 (kBcX3_leafTo_1 48 rfl rfl)
theorem dX3_leafTo_49 : decode cX3_leafTo 49 = .ok (.iload_n 1, 1) := dz_27 (kBcX3_leafTo_1 49 rfl rfl)
theorem dX3_leafTo_50 : decode cX3_leafTo 50 = .ok (.iload_n 2, 1) := dz_28 (kBcX3_leafTo_1 50 rfl rfl)
theorem dX3_leafTo_51 : decode cX3_leafTo 51 = .ok (.iload_n 3, 1) := dz_29 (kBcX3_leafTo_1 51 rfl rfl)
theorem dX3_leafTo_52 : decode cX3_leafTo 52 = .ok (.invokevirtual 218, 3) := dz_182 (kBcX3_leafTo_1 52 rfl rfl) (kBcX3_leafTo_1 53 rfl rfl) (kBcX3_leafTo_1 54 rfl rfl) rfl
theorem dX3_leafTo_55 : decode cX3_leafTo 55 = .ok (.areturn, 1) := dz_176 (kBcX3_leafTo_1 55 rfl rfl)
def kCcX3_yearTold_0 : List Nat := [42, 180, 0, 15, 27, 46, 62, 8, 188, 10, 89, 3, 29, 79, 89, 4, 29, 133, 184, 0, 44, 184, 0, 78, 79, 89, 5, 29, 133, 184, 0, 148]
def kCcX3_yearTold_1 : List Nat := [79, 89, 6, 29, 184, 0, 141, 79, 89, 7, 29, 184, 0, 134, 79, 58, 4, 25, 4, 28, 46, 172]
def kRcX3_yearTold_2 : List Nat := []
def kRcX3_yearTold_1 : List Nat := kCcX3_yearTold_1 ++ kRcX3_yearTold_2
def kRcX3_yearTold_0 : List Nat := kCcX3_yearTold_0 ++ kRcX3_yearTold_1
theorem kRcX3_yearTold_eq : cX3_yearTold.data.toList.map UInt8.toNat = kRcX3_yearTold_0 := by decide +kernel
theorem katcX3_yearTold_0 (i : Nat) : (cX3_yearTold.data.toList.map UInt8.toNat)[0 + i]? = kRcX3_yearTold_0[i]? := by rw [kRcX3_yearTold_eq, Nat.zero_add]
theorem katcX3_yearTold_1 : ∀ i : Nat, (cX3_yearTold.data.toList.map UInt8.toNat)[32 + i]? = kRcX3_yearTold_1[i]? := kstep katcX3_yearTold_0 (C := kCcX3_yearTold_0) rfl rfl
theorem kBcX3_yearTold_0 {b : Nat} (p : Nat) (hp : Nat.ble 0 p = true) (h : kCcX3_yearTold_0[p - 0]? = some b) : kb cX3_yearTold p b := kin katcX3_yearTold_0 rfl hp h
theorem kBcX3_yearTold_1 {b : Nat} (p : Nat) (hp : Nat.ble 32 p = true) (h : kCcX3_yearTold_1[p - 32]? = some b) : kb cX3_yearTold p b := kin katcX3_yearTold_1 rfl hp h
theorem dX3_yearTold_0 : decode cX3_yearTold 0 = .ok (.aload_n 0, 1) := dz_42 (kBcX3_yearTold_0 0 rfl rfl)
theorem dX3_yearTold_1 : decode cX3_yearTold 1 = .ok (.getfield 15, 3) := dz_180 (kBcX3_yearTold_0 1 rfl rfl) (kBcX3_yearTold_0 2 rfl rfl) (kBcX3_yearTold_0 3 rfl rfl) rfl
theorem dX3_yearTold_4 : decode cX3_yearTold 4 = .ok (.iload_n 1, 1) := dz_27 (kBcX3_yearTold_0 4 rfl rfl)
theorem dX3_yearTold_5 : decode cX3_yearTold 5 = .ok (.iaload, 1) := dz_46 (kBcX3_yearTold_0 5 rfl rfl)
theorem dX3_yearTold_6 : decode cX3_yearTold 6 = .ok (.istore_n 3, 1) := dz_62 (kBcX3_yearTold_0 6 rfl rfl)
theorem dX3_yearTold_7 : decode cX3_yearTold 7 = .ok (.iconst 5, 1) := dz_8 (kBcX3_yearTold_0 7 rfl rfl)
theorem dX3_yearTold_8 : decode cX3_yearTold 8 = .ok (.newarray .int, 2) := by decide +kernel
theorem dX3_yearTold_10 : decode cX3_yearTold 10 = .ok (.dup, 1) := dz_89 (kBcX3_yearTold_0 10 rfl rfl)
theorem dX3_yearTold_11 : decode cX3_yearTold 11 = .ok (.iconst 0, 1) := dz_3 (kBcX3_yearTold_0 11 rfl rfl)
theorem dX3_yearTold_12 : decode cX3_yearTold 12 = .ok (.iload_n 3, 1) := dz_29 (kBcX3_yearTold_0 12 rfl rfl)
theorem dX3_yearTold_13 : decode cX3_yearTold 13 = .ok (.iastore, 1) := dz_79 (kBcX3_yearTold_0 13 rfl rfl)
theorem dX3_yearTold_14 : decode cX3_yearTold 14 = .ok (.dup, 1) := dz_89 (kBcX3_yearTold_0 14 rfl rfl)
theorem dX3_yearTold_15 : decode cX3_yearTold 15 = .ok (.iconst 1, 1) := dz_4 (kBcX3_yearTold_0 15 rfl rfl)
theorem dX3_yearTold_16 : decode cX3_yearTold 16 = .ok (.iload_n 3, 1) := dz_29 (kBcX3_yearTold_0 16 rfl rfl)
theorem dX3_yearTold_17 : decode cX3_yearTold 17 = .ok (.i2l, 1) := dz_133 (kBcX3_yearTold_0 17 rfl rfl)
theorem dX3_yearTold_18 : decode cX3_yearTold 18 = .ok (.invokestatic 44, 3) := dz_184 (kBcX3_yearTold_0 18 rfl rfl) (kBcX3_yearTold_0 19 rfl rfl) (kBcX3_yearTold_0 20 rfl rfl) rfl
theorem dX3_yearTold_21 : decode cX3_yearTold 21 = .ok (.invokestatic 78, 3) := dz_184 (kBcX3_yearTold_0 21 rfl rfl) (kBcX3_yearTold_0 22 rfl rfl) (kBcX3_yearTold_0 23 rfl rfl) rfl
theorem dX3_yearTold_24 : decode cX3_yearTold 24 = .ok (.iastore, 1) := dz_79 (kBcX3_yearTold_0 24 rfl rfl)
theorem dX3_yearTold_25 : decode cX3_yearTold 25 = .ok (.dup, 1) := dz_89 (kBcX3_yearTold_0 25 rfl rfl)
theorem dX3_yearTold_26 : decode cX3_yearTold 26 = .ok (.iconst 2, 1) := dz_5 (kBcX3_yearTold_0 26 rfl rfl)
theorem dX3_yearTold_27 : decode cX3_yearTold 27 = .ok (.iload_n 3, 1) := dz_29 (kBcX3_yearTold_0 27 rfl rfl)
theorem dX3_yearTold_28 : decode cX3_yearTold 28 = .ok (.i2l, 1) := dz_133 (kBcX3_yearTold_0 28 rfl rfl)
theorem dX3_yearTold_29 : decode cX3_yearTold 29 = .ok (.invokestatic 148, 3) := dz_184 (kBcX3_yearTold_0 29 rfl rfl) (kBcX3_yearTold_0 30 rfl rfl) (kBcX3_yearTold_0 31 rfl rfl) rfl
theorem dX3_yearTold_32 : decode cX3_yearTold 32 = .ok (.iastore, 1) := dz_79 (kBcX3_yearTold_1 32 rfl rfl)
theorem dX3_yearTold_33 : decode cX3_yearTold 33 = .ok (.dup, 1) := dz_89 (kBcX3_yearTold_1 33 rfl rfl)
theorem dX3_yearTold_34 : decode cX3_yearTold 34 = .ok (.iconst 3, 1) := dz_6 (kBcX3_yearTold_1 34 rfl rfl)
theorem dX3_yearTold_35 : decode cX3_yearTold 35 = .ok (.iload_n 3, 1) := dz_29 (kBcX3_yearTold_1 35 rfl rfl)
theorem dX3_yearTold_36 : decode cX3_yearTold 36 = .ok (.invokestatic 141, 3) := dz_184 (kBcX3_yearTold_1 36 rfl rfl) (kBcX3_yearTold_1 37 rfl rfl) (kBcX3_yearTold_1 38 rfl rfl) rfl
theorem dX3_yearTold_39 : decode cX3_yearTold 39 = .ok (.iastore, 1) := dz_79 (kBcX3_yearTold_1 39 rfl rfl)
theorem dX3_yearTold_40 : decode cX3_yearTold 40 = .ok (.dup, 1) := dz_89 (kBcX3_yearTold_1 40 rfl rfl)
theorem dX3_yearTold_41 : decode cX3_yearTold 41 = .ok (.iconst 4, 1) := dz_7 (kBcX3_yearTold_1 41 rfl rfl)
theorem dX3_yearTold_42 : decode cX3_yearTold 42 = .ok (.iload_n 3, 1) := dz_29 (kBcX3_yearTold_1 42 rfl rfl)
theorem dX3_yearTold_43 : decode cX3_yearTold 43 = .ok (.invokestatic 134, 3) := dz_184 (kBcX3_yearTold_1 43 rfl rfl) (kBcX3_yearTold_1 44 rfl rfl) (kBcX3_yearTold_1 45 rfl rfl) rfl
theorem dX3_yearTold_46 : decode cX3_yearTold 46 = .ok (.iastore, 1) := dz_79 (kBcX3_yearTold_1 46 rfl rfl)
theorem dX3_yearTold_47 : decode cX3_yearTold 47 = .ok (.astore 4, 2) := dz_58 (kBcX3_yearTold_1 47 rfl rfl) (kBcX3_yearTold_1 48 rfl rfl)
theorem dX3_yearTold_49 : decode cX3_yearTold 49 = .ok (.aload 4, 2) := dz_25 (kBcX3_yearTold_1 49 rfl rfl) (kBcX3_yearTold_1 50 rfl rfl)
theorem dX3_yearTold_51 : decode cX3_yearTold 51 = .ok (.iload_n 2, 1) := dz_28 (kBcX3_yearTold_1 51 rfl rfl)
theorem dX3_yearTold_52 : decode cX3_yearTold 52 = .ok (.iaload, 1) := dz_46 (kBcX3_yearTold_1 52 rfl rfl)
theorem dX3_yearTold_53 : decode cX3_yearTold 53 = .ok (.ireturn, 1) := dz_172 (kBcX3_yearTold_1 53 rfl rfl)
def kCcX3_ofYear_0 : List Nat := [42, 27, 184, 0, 96, 28, 133, 9, 20, 0, 121, 184, 0, 30, 154, 0, 7, 4, 167, 0, 4, 3, 182, 0, 103, 153, 0, 7, 3, 167, 0, 9]
def kCcX3_ofYear_1 : List Nat := [42, 27, 28, 182, 0, 222, 172]
def kRcX3_ofYear_2 : List Nat := []
def kRcX3_ofYear_1 : List Nat := kCcX3_ofYear_1 ++ kRcX3_ofYear_2
def kRcX3_ofYear_0 : List Nat := kCcX3_ofYear_0 ++ kRcX3_ofYear_1
theorem kRcX3_ofYear_eq : cX3_ofYear.data.toList.map UInt8.toNat = kRcX3_ofYear_0 := by decide +kernel
theorem katcX3_ofYear_0 (i : Nat) : (cX3_ofYear.data.toList.map UInt8.toNat)[0 + i]? = kRcX3_ofYear_0[i]? := by rw [kRcX3_ofYear_eq, Nat.zero_add]
theorem katcX3_ofYear_1 : ∀ i : Nat, (cX3_ofYear.data.toList.map UInt8.toNat)[32 + i]? = kRcX3_ofYear_1[i]? := kstep katcX3_ofYear_0 (C := kCcX3_ofYear_0) rfl rfl
theorem kBcX3_ofYear_0 {b : Nat} (p : Nat) (hp : Nat.ble 0 p = true) (h : kCcX3_ofYear_0[p - 0]? = some b) : kb cX3_ofYear p b := kin katcX3_ofYear_0 rfl hp h
theorem kBcX3_ofYear_1 {b : Nat} (p : Nat) (hp : Nat.ble 32 p = true) (h : kCcX3_ofYear_1[p - 32]? = some b) : kb cX3_ofYear p b := kin katcX3_ofYear_1 rfl hp h
theorem dX3_ofYear_0 : decode cX3_ofYear 0 = .ok (.aload_n 0, 1) := dz_42 (kBcX3_ofYear_0 0 rfl rfl)
theorem dX3_ofYear_1 : decode cX3_ofYear 1 = .ok (.iload_n 1, 1) := dz_27 (kBcX3_ofYear_0 1 rfl rfl)
theorem dX3_ofYear_2 : decode cX3_ofYear 2 = .ok (.invokestatic 96, 3) := dz_184 (kBcX3_ofYear_0 2 rfl rfl) (kBcX3_ofYear_0 3 rfl rfl) (kBcX3_ofYear_0 4 rfl rfl) rfl
theorem dX3_ofYear_5 : decode cX3_ofYear 5 = .ok (.iload_n 2, 1) := dz_28 (kBcX3_ofYear_0 5 rfl rfl)
theorem dX3_ofYear_6 : decode cX3_ofYear 6 = .ok (.i2l, 1) := dz_133 (kBcX3_ofYear_0 6 rfl rfl)
theorem dX3_ofYear_7 : decode cX3_ofYear 7 = .ok (.lconst 0, 1) := dz_9 (kBcX3_ofYear_0 7 rfl rfl)
theorem dX3_ofYear_8 : decode cX3_ofYear 8 = .ok (.ldc2_w 121, 3) := dz_20 (kBcX3_ofYear_0 8 rfl rfl) (kBcX3_ofYear_0 9 rfl rfl) (kBcX3_ofYear_0 10 rfl rfl) rfl
theorem dX3_ofYear_11 : decode cX3_ofYear 11 = .ok (.invokestatic 30, 3) := dz_184 (kBcX3_ofYear_0 11 rfl rfl) (kBcX3_ofYear_0 12 rfl rfl) (kBcX3_ofYear_0 13 rfl rfl) rfl
theorem dX3_ofYear_14 : decode cX3_ofYear 14 = .ok (.ifCond .ne 7, 3) := dz_154 (kBcX3_ofYear_0 14 rfl rfl) (kBcX3_ofYear_0 15 rfl rfl) (kBcX3_ofYear_0 16 rfl rfl) rfl
theorem dX3_ofYear_17 : decode cX3_ofYear 17 = .ok (.iconst 1, 1) := dz_4 (kBcX3_ofYear_0 17 rfl rfl)
theorem dX3_ofYear_18 : decode cX3_ofYear 18 = .ok (.goto 4, 3) := dz_167 (kBcX3_ofYear_0 18 rfl rfl) (kBcX3_ofYear_0 19 rfl rfl) (kBcX3_ofYear_0 20 rfl rfl) rfl
theorem dX3_ofYear_21 : decode cX3_ofYear 21 = .ok (.iconst 0, 1) := dz_3 (kBcX3_ofYear_0 21 rfl rfl)
theorem dX3_ofYear_22 : decode cX3_ofYear 22 = .ok (.invokevirtual 103, 3) := dz_182 (kBcX3_ofYear_0 22 rfl rfl) (kBcX3_ofYear_0 23 rfl rfl) (kBcX3_ofYear_0 24 rfl rfl) rfl
theorem dX3_ofYear_25 : decode cX3_ofYear 25 = .ok (.ifCond .eq 7, 3) := dz_153 (kBcX3_ofYear_0 25 rfl rfl) (kBcX3_ofYear_0 26 rfl rfl) (kBcX3_ofYear_0 27 rfl rfl) rfl
theorem dX3_ofYear_28 : decode cX3_ofYear 28 = .ok (.iconst 0, 1) := dz_3 (kBcX3_ofYear_0 28 rfl rfl)
theorem dX3_ofYear_29 : decode cX3_ofYear 29 = .ok (.goto 9, 3) := dz_167 (kBcX3_ofYear_0 29 rfl rfl) (kBcX3_ofYear_0 30 rfl rfl) (kBcX3_ofYear_0 31 rfl rfl) rfl
theorem dX3_ofYear_32 : decode cX3_ofYear 32 = .ok (.aload_n 0, 1) := dz_42 (kBcX3_ofYear_1 32 rfl rfl)
theorem dX3_ofYear_33 : decode cX3_ofYear 33 = .ok (.iload_n 1, 1) := dz_27 (kBcX3_ofYear_1 33 rfl rfl)
theorem dX3_ofYear_34 : decode cX3_ofYear 34 = .ok (.iload_n 2, 1) := dz_28 (kBcX3_ofYear_1 34 rfl rfl)
theorem dX3_ofYear_35 : decode cX3_ofYear 35 = .ok (.invokevirtual 222, 3) := dz_182 (kBcX3_ofYear_1 35 rfl rfl) (kBcX3_ofYear_1 36 rfl rfl) (kBcX3_ofYear_1 37 rfl rfl) rfl
theorem dX3_ofYear_38 : decode cX3_ofYear 38 = .ok (.ireturn, 1) := dz_172 (kBcX3_ofYear_1 38 rfl rfl)
def kCcX3_isLeap_0 : List Nat := [42, 3, 181, 0, 24, 27, 133, 28, 133, 105, 184, 0, 44, 172]
theorem kRcX3_isLeap_eq : cX3_isLeap.data.toList.map UInt8.toNat = kCcX3_isLeap_0 := by decide +kernel
theorem dX3_isLeap_0 : decode cX3_isLeap 0 = .ok (.aload_n 0, 1) := dz_42 (kin0 (p := 0) kRcX3_isLeap_eq rfl)
theorem dX3_isLeap_1 : decode cX3_isLeap 1 = .ok (.iconst 0, 1) := dz_3 (kin0 (p := 1) kRcX3_isLeap_eq rfl)
theorem dX3_isLeap_2 : decode cX3_isLeap 2 = .ok (.putfield 24, 3) := dz_181 (kin0 (p := 2) kRcX3_isLeap_eq rfl) (kin0 (p := 3) kRcX3_isLeap_eq rfl) (kin0 (p := 4) kRcX3_isLeap_eq rfl) rfl
theorem dX3_isLeap_5 : decode cX3_isLeap 5 = .ok (.iload_n 1, 1) := dz_27 (kin0 (p := 5) kRcX3_isLeap_eq rfl)
theorem dX3_isLeap_6 : decode cX3_isLeap 6 = .ok (.i2l, 1) := dz_133 (kin0 (p := 6) kRcX3_isLeap_eq rfl)
theorem dX3_isLeap_7 : decode cX3_isLeap 7 = .ok (.iload_n 2, 1) := dz_28 (kin0 (p := 7) kRcX3_isLeap_eq rfl)
theorem dX3_isLeap_8 : decode cX3_isLeap 8 = .ok (.i2l, 1) := dz_133 (kin0 (p := 8) kRcX3_isLeap_eq rfl)
theorem dX3_isLeap_9 : decode cX3_isLeap 9 = .ok (.lmul, 1) := dz_105 (kin0 (p := 9) kRcX3_isLeap_eq rfl)
theorem dX3_isLeap_10 : decode cX3_isLeap 10 = .ok (.invokestatic 44, 3) := dz_184 (kin0 (p := 10) kRcX3_isLeap_eq rfl) (kin0 (p := 11) kRcX3_isLeap_eq rfl) (kin0 (p := 12) kRcX3_isLeap_eq rfl) rfl
theorem dX3_isLeap_13 : decode cX3_isLeap 13 = .ok (.ireturn, 1) := dz_172 (kin0 (p := 13) kRcX3_isLeap_eq rfl)
def kCcX3_hasFeast_0 : List Nat := [42, 27, 184, 0, 96, 154, 0, 10, 28, 184, 0, 96, 153, 0, 7, 4, 167, 0, 4, 3, 3, 182, 0, 103, 154, 0, 30, 29, 154, 0, 26, 42]
def kCcX3_hasFeast_1 : List Nat := [180, 0, 18, 28, 50, 42, 180, 0, 15, 27, 46, 133, 184, 0, 82, 153, 0, 7, 4, 167, 0, 4, 3, 172]
def kRcX3_hasFeast_2 : List Nat := []
def kRcX3_hasFeast_1 : List Nat := kCcX3_hasFeast_1 ++ kRcX3_hasFeast_2
def kRcX3_hasFeast_0 : List Nat := kCcX3_hasFeast_0 ++ kRcX3_hasFeast_1
theorem kRcX3_hasFeast_eq : cX3_hasFeast.data.toList.map UInt8.toNat = kRcX3_hasFeast_0 := by decide +kernel
theorem katcX3_hasFeast_0 (i : Nat) : (cX3_hasFeast.data.toList.map UInt8.toNat)[0 + i]? = kRcX3_hasFeast_0[i]? := by rw [kRcX3_hasFeast_eq, Nat.zero_add]
theorem katcX3_hasFeast_1 : ∀ i : Nat, (cX3_hasFeast.data.toList.map UInt8.toNat)[32 + i]? = kRcX3_hasFeast_1[i]? := kstep katcX3_hasFeast_0 (C := kCcX3_hasFeast_0) rfl rfl
theorem kBcX3_hasFeast_0 {b : Nat} (p : Nat) (hp : Nat.ble 0 p = true) (h : kCcX3_hasFeast_0[p - 0]? = some b) : kb cX3_hasFeast p b := kin katcX3_hasFeast_0 rfl hp h
theorem kBcX3_hasFeast_1 {b : Nat} (p : Nat) (hp : Nat.ble 32 p = true) (h : kCcX3_hasFeast_1[p - 32]? = some b) : kb cX3_hasFeast p b := kin katcX3_hasFeast_1 rfl hp h
theorem dX3_hasFeast_0 : decode cX3_hasFeast 0 = .ok (.aload_n 0, 1) := dz_42 (kBcX3_hasFeast_0 0 rfl rfl)
theorem dX3_hasFeast_1 : decode cX3_hasFeast 1 = .ok (.iload_n 1, 1) := dz_27 (kBcX3_hasFeast_0 1 rfl rfl)
theorem dX3_hasFeast_2 : decode cX3_hasFeast 2 = .ok (.invokestatic 96, 3) := dz_184 (kBcX3_hasFeast_0 2 rfl rfl) (kBcX3_hasFeast_0 3 rfl rfl) (kBcX3_hasFeast_0 4 rfl rfl) rfl
theorem dX3_hasFeast_5 : decode cX3_hasFeast 5 = .ok (.ifCond .ne 10, 3) := dz_154 (kBcX3_hasFeast_0 5 rfl rfl) (kBcX3_hasFeast_0 6 rfl rfl) (kBcX3_hasFeast_0 7 rfl rfl) rfl
theorem dX3_hasFeast_8 : decode cX3_hasFeast 8 = .ok (.iload_n 2, 1) := dz_28 (kBcX3_hasFeast_0 8 rfl rfl)
theorem dX3_hasFeast_9 : decode cX3_hasFeast 9 = .ok (.invokestatic 96, 3) := dz_184 (kBcX3_hasFeast_0 9 rfl rfl) (kBcX3_hasFeast_0 10 rfl rfl) (kBcX3_hasFeast_0 11 rfl rfl) rfl
theorem dX3_hasFeast_12 : decode cX3_hasFeast 12 = .ok (.ifCond .eq 7, 3) := dz_153 (kBcX3_hasFeast_0 12 rfl rfl) (kBcX3_hasFeast_0 13 rfl rfl) (kBcX3_hasFeast_0 14 rfl rfl) rfl
theorem dX3_hasFeast_15 : decode cX3_hasFeast 15 = .ok (.iconst 1, 1) := dz_4 (kBcX3_hasFeast_0 15 rfl rfl)
theorem dX3_hasFeast_16 : decode cX3_hasFeast 16 = .ok (.goto 4, 3) := dz_167 (kBcX3_hasFeast_0 16 rfl rfl) (kBcX3_hasFeast_0 17 rfl rfl) (kBcX3_hasFeast_0 18 rfl rfl) rfl
theorem dX3_hasFeast_19 : decode cX3_hasFeast 19 = .ok (.iconst 0, 1) := dz_3 (kBcX3_hasFeast_0 19 rfl rfl)
theorem dX3_hasFeast_20 : decode cX3_hasFeast 20 = .ok (.iconst 0, 1) := dz_3 (kBcX3_hasFeast_0 20 rfl rfl)
theorem dX3_hasFeast_21 : decode cX3_hasFeast 21 = .ok (.invokevirtual 103, 3) := dz_182 (kBcX3_hasFeast_0 21 rfl rfl) (kBcX3_hasFeast_0 22 rfl rfl) (kBcX3_hasFeast_0 23 rfl rfl) rfl
theorem dX3_hasFeast_24 : decode cX3_hasFeast 24 = .ok (.ifCond .ne 30, 3) := dz_154 (kBcX3_hasFeast_0 24 rfl rfl) (kBcX3_hasFeast_0 25 rfl rfl) (kBcX3_hasFeast_0 26 rfl rfl) rfl
theorem dX3_hasFeast_27 : decode cX3_hasFeast 27 = .ok (.iload_n 3, 1) := dz_29 (kBcX3_hasFeast_0 27 rfl rfl)
theorem dX3_hasFeast_28 : decode cX3_hasFeast 28 = .ok (.ifCond .ne 26, 3) := dz_154 (kBcX3_hasFeast_0 28 rfl rfl) (kBcX3_hasFeast_0 29 rfl rfl) (kBcX3_hasFeast_0 30 rfl rfl) rfl
theorem dX3_hasFeast_31 : decode cX3_hasFeast 31 = .ok (.aload_n 0, 1) := dz_42 (kBcX3_hasFeast_0 31 rfl rfl)
theorem dX3_hasFeast_32 : decode cX3_hasFeast 32 = .ok (.getfield 18, 3) := dz_180 (kBcX3_hasFeast_1 32 rfl rfl) (kBcX3_hasFeast_1 33 rfl rfl) (kBcX3_hasFeast_1 34 rfl rfl) rfl
theorem dX3_hasFeast_35 : decode cX3_hasFeast 35 = .ok (.iload_n 2, 1) := dz_28 (kBcX3_hasFeast_1 35 rfl rfl)
theorem dX3_hasFeast_36 : decode cX3_hasFeast 36 = .ok (.aaload, 1) := dz_50 (kBcX3_hasFeast_1 36 rfl rfl)
theorem dX3_hasFeast_37 : decode cX3_hasFeast 37 = .ok (.aload_n 0, 1) := dz_42 (kBcX3_hasFeast_1 37 rfl rfl)
theorem dX3_hasFeast_38 : decode cX3_hasFeast 38 = .ok (.getfield 15, 3) := dz_180 (kBcX3_hasFeast_1 38 rfl rfl) (kBcX3_hasFeast_1 39 rfl rfl) (kBcX3_hasFeast_1 40 rfl rfl) rfl
theorem dX3_hasFeast_41 : decode cX3_hasFeast 41 = .ok (.iload_n 1, 1) := dz_27 (kBcX3_hasFeast_1 41 rfl rfl)
theorem dX3_hasFeast_42 : decode cX3_hasFeast 42 = .ok (.iaload, 1) := dz_46 (kBcX3_hasFeast_1 42 rfl rfl)
theorem dX3_hasFeast_43 : decode cX3_hasFeast 43 = .ok (.i2l, 1) := dz_133 (kBcX3_hasFeast_1 43 rfl rfl)
theorem dX3_hasFeast_44 : decode cX3_hasFeast 44 = .ok (.invokestatic 82, 3) := dz_184 (kBcX3_hasFeast_1 44 rfl rfl) (kBcX3_hasFeast_1 45 rfl rfl) (kBcX3_hasFeast_1 46 rfl rfl) rfl
theorem dX3_hasFeast_47 : decode cX3_hasFeast 47 = .ok (.ifCond .eq 7, 3) := dz_153 (kBcX3_hasFeast_1 47 rfl rfl) (kBcX3_hasFeast_1 48 rfl rfl) (kBcX3_hasFeast_1 49 rfl rfl) rfl
theorem dX3_hasFeast_50 : decode cX3_hasFeast 50 = .ok (.iconst 1, 1) := dz_4 (kBcX3_hasFeast_1 50 rfl rfl)
theorem dX3_hasFeast_51 : decode cX3_hasFeast 51 = .ok (.goto 4, 3) := dz_167 (kBcX3_hasFeast_1 51 rfl rfl) (kBcX3_hasFeast_1 52 rfl rfl) (kBcX3_hasFeast_1 53 rfl rfl) rfl
theorem dX3_hasFeast_54 : decode cX3_hasFeast 54 = .ok (.iconst 0, 1) := dz_3 (kBcX3_hasFeast_1 54 rfl rfl)
theorem dX3_hasFeast_55 : decode cX3_hasFeast 55 = .ok (.ireturn, 1) := dz_172 (kBcX3_hasFeast_1 55 rfl rfl)
def kCcX3_yearOrder_0 : List Nat := [42, 27, 184, 0, 96, 154, 0, 10, 28, 184, 0, 96, 153, 0, 7, 4, 167, 0, 4, 3, 29, 184, 0, 208, 182, 0, 103, 153, 0, 7, 3, 167]
def kCcX3_yearOrder_1 : List Nat := [0, 21, 42, 180, 0, 15, 27, 46, 133, 42, 180, 0, 15, 28, 46, 133, 29, 184, 0, 211, 172]
def kRcX3_yearOrder_2 : List Nat := []
def kRcX3_yearOrder_1 : List Nat := kCcX3_yearOrder_1 ++ kRcX3_yearOrder_2
def kRcX3_yearOrder_0 : List Nat := kCcX3_yearOrder_0 ++ kRcX3_yearOrder_1
theorem kRcX3_yearOrder_eq : cX3_yearOrder.data.toList.map UInt8.toNat = kRcX3_yearOrder_0 := by decide +kernel
theorem katcX3_yearOrder_0 (i : Nat) : (cX3_yearOrder.data.toList.map UInt8.toNat)[0 + i]? = kRcX3_yearOrder_0[i]? := by rw [kRcX3_yearOrder_eq, Nat.zero_add]
theorem katcX3_yearOrder_1 : ∀ i : Nat, (cX3_yearOrder.data.toList.map UInt8.toNat)[32 + i]? = kRcX3_yearOrder_1[i]? := kstep katcX3_yearOrder_0 (C := kCcX3_yearOrder_0) rfl rfl
theorem kBcX3_yearOrder_0 {b : Nat} (p : Nat) (hp : Nat.ble 0 p = true) (h : kCcX3_yearOrder_0[p - 0]? = some b) : kb cX3_yearOrder p b := kin katcX3_yearOrder_0 rfl hp h
theorem kBcX3_yearOrder_1 {b : Nat} (p : Nat) (hp : Nat.ble 32 p = true) (h : kCcX3_yearOrder_1[p - 32]? = some b) : kb cX3_yearOrder p b := kin katcX3_yearOrder_1 rfl hp h
theorem dX3_yearOrder_0 : decode cX3_yearOrder 0 = .ok (.aload_n 0, 1) := dz_42 (kBcX3_yearOrder_0 0 rfl rfl)
theorem dX3_yearOrder_1 : decode cX3_yearOrder 1 = .ok (.iload_n 1, 1) := dz_27 (kBcX3_yearOrder_0 1 rfl rfl)
theorem dX3_yearOrder_2 : decode cX3_yearOrder 2 = .ok (.invokestatic 96, 3) := dz_184 (kBcX3_yearOrder_0 2 rfl rfl) (kBcX3_yearOrder_0 3 rfl rfl) (kBcX3_yearOrder_0 4 rfl rfl) rfl
theorem dX3_yearOrder_5 : decode cX3_yearOrder 5 = .ok (.ifCond .ne 10, 3) := dz_154 (kBcX3_yearOrder_0 5 rfl rfl) (kBcX3_yearOrder_0 6 rfl rfl) (kBcX3_yearOrder_0 7 rfl rfl) rfl
theorem dX3_yearOrder_8 : decode cX3_yearOrder 8 = .ok (.iload_n 2, 1) := dz_28 (kBcX3_yearOrder_0 8 rfl rfl)
theorem dX3_yearOrder_9 : decode cX3_yearOrder 9 = .ok (.invokestatic 96, 3) := dz_184 (kBcX3_yearOrder_0 9 rfl rfl) (kBcX3_yearOrder_0 10 rfl rfl) (kBcX3_yearOrder_0 11 rfl rfl) rfl
theorem dX3_yearOrder_12 : decode cX3_yearOrder 12 = .ok (.ifCond .eq 7, 3) := dz_153 (kBcX3_yearOrder_0 12 rfl rfl) (kBcX3_yearOrder_0 13 rfl rfl) (kBcX3_yearOrder_0 14 rfl rfl) rfl
theorem dX3_yearOrder_15 : decode cX3_yearOrder 15 = .ok (.iconst 1, 1) := dz_4 (kBcX3_yearOrder_0 15 rfl rfl)
theorem dX3_yearOrder_16 : decode cX3_yearOrder 16 = .ok (.goto 4, 3) := dz_167 (kBcX3_yearOrder_0 16 rfl rfl) (kBcX3_yearOrder_0 17 rfl rfl) (kBcX3_yearOrder_0 18 rfl rfl) rfl
theorem dX3_yearOrder_19 : decode cX3_yearOrder 19 = .ok (.iconst 0, 1) := dz_3 (kBcX3_yearOrder_0 19 rfl rfl)
theorem dX3_yearOrder_20 : decode cX3_yearOrder 20 = .ok (.iload_n 3, 1) := dz_29 (kBcX3_yearOrder_0 20 rfl rfl)
theorem dX3_yearOrder_21 : decode cX3_yearOrder 21 = .ok (.invokestatic 208, 3) := dz_184 (kBcX3_yearOrder_0 21 rfl rfl) (kBcX3_yearOrder_0 22 rfl rfl) (kBcX3_yearOrder_0 23 rfl rfl) rfl
theorem dX3_yearOrder_24 : decode cX3_yearOrder 24 = .ok (.invokevirtual 103, 3) := dz_182 (kBcX3_yearOrder_0 24 rfl rfl) (kBcX3_yearOrder_0 25 rfl rfl) (kBcX3_yearOrder_0 26 rfl rfl) rfl
theorem dX3_yearOrder_27 : decode cX3_yearOrder 27 = .ok (.ifCond .eq 7, 3) := dz_153 (kBcX3_yearOrder_0 27 rfl rfl) (kBcX3_yearOrder_0 28 rfl rfl) (kBcX3_yearOrder_0 29 rfl rfl) rfl
theorem dX3_yearOrder_30 : decode cX3_yearOrder 30 = .ok (.iconst 0, 1) := dz_3 (kBcX3_yearOrder_0 30 rfl rfl)
theorem dX3_yearOrder_31 : decode cX3_yearOrder 31 = .ok (.goto 21, 3) := dz_167 (kBcX3_yearOrder_0 31 rfl rfl) (kBcX3_yearOrder_1 32 rfl rfl) (kBcX3_yearOrder_1 33 rfl rfl) rfl
theorem dX3_yearOrder_34 : decode cX3_yearOrder 34 = .ok (.aload_n 0, 1) := dz_42 (kBcX3_yearOrder_1 34 rfl rfl)
theorem dX3_yearOrder_35 : decode cX3_yearOrder 35 = .ok (.getfield 15, 3) := dz_180 (kBcX3_yearOrder_1 35 rfl rfl) (kBcX3_yearOrder_1 36 rfl rfl) (kBcX3_yearOrder_1 37 rfl rfl) rfl
theorem dX3_yearOrder_38 : decode cX3_yearOrder 38 = .ok (.iload_n 1, 1) := dz_27 (kBcX3_yearOrder_1 38 rfl rfl)
theorem dX3_yearOrder_39 : decode cX3_yearOrder 39 = .ok (.iaload, 1) := dz_46 (kBcX3_yearOrder_1 39 rfl rfl)
theorem dX3_yearOrder_40 : decode cX3_yearOrder 40 = .ok (.i2l, 1) := dz_133 (kBcX3_yearOrder_1 40 rfl rfl)
theorem dX3_yearOrder_41 : decode cX3_yearOrder 41 = .ok (.aload_n 0, 1) := dz_42 (kBcX3_yearOrder_1 41 rfl rfl)
theorem dX3_yearOrder_42 : decode cX3_yearOrder 42 = .ok (.getfield 15, 3) := dz_180 (kBcX3_yearOrder_1 42 rfl rfl) (kBcX3_yearOrder_1 43 rfl rfl) (kBcX3_yearOrder_1 44 rfl rfl) rfl
theorem dX3_yearOrder_45 : decode cX3_yearOrder 45 = .ok (.iload_n 2, 1) := dz_28 (kBcX3_yearOrder_1 45 rfl rfl)
theorem dX3_yearOrder_46 : decode cX3_yearOrder 46 = .ok (.iaload, 1) := dz_46 (kBcX3_yearOrder_1 46 rfl rfl)
theorem dX3_yearOrder_47 : decode cX3_yearOrder 47 = .ok (.i2l, 1) := dz_133 (kBcX3_yearOrder_1 47 rfl rfl)
theorem dX3_yearOrder_48 : decode cX3_yearOrder 48 = .ok (.iload_n 3, 1) := dz_29 (kBcX3_yearOrder_1 48 rfl rfl)
theorem dX3_yearOrder_49 : decode cX3_yearOrder 49 = .ok (.invokestatic 211, 3) := dz_184 (kBcX3_yearOrder_1 49 rfl rfl) (kBcX3_yearOrder_1 50 rfl rfl) (kBcX3_yearOrder_1 51 rfl rfl) rfl
theorem dX3_yearOrder_52 : decode cX3_yearOrder 52 = .ok (.ireturn, 1) := dz_172 (kBcX3_yearOrder_1 52 rfl rfl)
def kCcX3_isYear_0 : List Nat := [42, 27, 28, 29, 182, 0, 215, 154, 0, 27, 28, 4, 160, 0, 22, 42, 180, 0, 15, 27, 46, 42, 180, 0, 15, 29, 46, 160, 0, 7, 4, 167]
def kCcX3_isYear_1 : List Nat := [0, 4, 3, 172]
def kRcX3_isYear_2 : List Nat := []
def kRcX3_isYear_1 : List Nat := kCcX3_isYear_1 ++ kRcX3_isYear_2
def kRcX3_isYear_0 : List Nat := kCcX3_isYear_0 ++ kRcX3_isYear_1
theorem kRcX3_isYear_eq : cX3_isYear.data.toList.map UInt8.toNat = kRcX3_isYear_0 := by decide +kernel
theorem katcX3_isYear_0 (i : Nat) : (cX3_isYear.data.toList.map UInt8.toNat)[0 + i]? = kRcX3_isYear_0[i]? := by rw [kRcX3_isYear_eq, Nat.zero_add]
theorem katcX3_isYear_1 : ∀ i : Nat, (cX3_isYear.data.toList.map UInt8.toNat)[32 + i]? = kRcX3_isYear_1[i]? := kstep katcX3_isYear_0 (C := kCcX3_isYear_0) rfl rfl
theorem kBcX3_isYear_0 {b : Nat} (p : Nat) (hp : Nat.ble 0 p = true) (h : kCcX3_isYear_0[p - 0]? = some b) : kb cX3_isYear p b := kin katcX3_isYear_0 rfl hp h
theorem kBcX3_isYear_1 {b : Nat} (p : Nat) (hp : Nat.ble 32 p = true) (h : kCcX3_isYear_1[p - 32]? = some b) : kb cX3_isYear p b := kin katcX3_isYear_1 rfl hp h
theorem dX3_isYear_0 : decode cX3_isYear 0 = .ok (.aload_n 0, 1) := dz_42 (kBcX3_isYear_0 0 rfl rfl)
theorem dX3_isYear_1 : decode cX3_isYear 1 = .ok (.iload_n 1, 1) := dz_27 (kBcX3_isYear_0 1 rfl rfl)
theorem dX3_isYear_2 : decode cX3_isYear 2 = .ok (.iload_n 2, 1) := dz_28 (kBcX3_isYear_0 2 rfl rfl)
theorem dX3_isYear_3 : decode cX3_isYear 3 = .ok (.iload_n 3, 1) := dz_29 (kBcX3_isYear_0 3 rfl rfl)
theorem dX3_isYear_4 : decode cX3_isYear 4 = .ok (.invokevirtual 215, 3) := dz_182 (kBcX3_isYear_0 4 rfl rfl) (kBcX3_isYear_0 5 rfl rfl) (kBcX3_isYear_0 6 rfl rfl) rfl
theorem dX3_isYear_7 : decode cX3_isYear 7 = .ok (.ifCond .ne 27, 3) := dz_154 (kBcX3_isYear_0 7 rfl rfl) (kBcX3_isYear_0 8 rfl rfl) (kBcX3_isYear_0 9 rfl rfl) rfl
theorem dX3_isYear_10 : decode cX3_isYear 10 = .ok (.iload_n 2, 1) := dz_28 (kBcX3_isYear_0 10 rfl rfl)
theorem dX3_isYear_11 : decode cX3_isYear 11 = .ok (.iconst 1, 1) := dz_4 (kBcX3_isYear_0 11 rfl rfl)
theorem dX3_isYear_12 : decode cX3_isYear 12 = .ok (.if_icmp .ne 22, 3) := dz_160 (kBcX3_isYear_0 12 rfl rfl) (kBcX3_isYear_0 13 rfl rfl) (kBcX3_isYear_0 14 rfl rfl) rfl
theorem dX3_isYear_15 : decode cX3_isYear 15 = .ok (.aload_n 0, 1) := dz_42 (kBcX3_isYear_0 15 rfl rfl)
theorem dX3_isYear_16 : decode cX3_isYear 16 = .ok (.getfield 15, 3) := dz_180 (kBcX3_isYear_0 16 rfl rfl) (kBcX3_isYear_0 17 rfl rfl) (kBcX3_isYear_0 18 rfl rfl) rfl
theorem dX3_isYear_19 : decode cX3_isYear 19 = .ok (.iload_n 1, 1) := dz_27 (kBcX3_isYear_0 19 rfl rfl)
theorem dX3_isYear_20 : decode cX3_isYear 20 = .ok (.iaload, 1) := dz_46 (kBcX3_isYear_0 20 rfl rfl)
theorem dX3_isYear_21 : decode cX3_isYear 21 = .ok (.aload_n 0, 1) := dz_42 (kBcX3_isYear_0 21 rfl rfl)
theorem dX3_isYear_22 : decode cX3_isYear 22 = .ok (.getfield 15, 3) := dz_180 (kBcX3_isYear_0 22 rfl rfl) (kBcX3_isYear_0 23 rfl rfl) (kBcX3_isYear_0 24 rfl rfl) rfl
theorem dX3_isYear_25 : decode cX3_isYear 25 = .ok (.iload_n 3, 1) := dz_29 (kBcX3_isYear_0 25 rfl rfl)
theorem dX3_isYear_26 : decode cX3_isYear 26 = .ok (.iaload, 1) := dz_46 (kBcX3_isYear_0 26 rfl rfl)
theorem dX3_isYear_27 : decode cX3_isYear 27 = .ok (.if_icmp .ne 7, 3) := dz_160 (kBcX3_isYear_0 27 rfl rfl) (kBcX3_isYear_0 28 rfl rfl) (kBcX3_isYear_0 29 rfl rfl) rfl
theorem dX3_isYear_30 : decode cX3_isYear 30 = .ok (.iconst 1, 1) := dz_4 (kBcX3_isYear_0 30 rfl rfl)
theorem dX3_isYear_31 : decode cX3_isYear 31 = .ok (.goto 4, 3) := dz_167 (kBcX3_isYear_0 31 rfl rfl) (kBcX3_isYear_1 32 rfl rfl) (kBcX3_isYear_1 33 rfl rfl) rfl
theorem dX3_isYear_34 : decode cX3_isYear 34 = .ok (.iconst 0, 1) := dz_3 (kBcX3_isYear_1 34 rfl rfl)
theorem dX3_isYear_35 : decode cX3_isYear 35 = .ok (.ireturn, 1) := dz_172 (kBcX3_isYear_1 35 rfl rfl)
def kCcX3_yearTo_0 : List Nat := [42, 27, 184, 0, 96, 154, 0, 10, 28, 184, 0, 96, 153, 0, 7, 4, 167, 0, 4, 3, 29, 133, 10, 20, 0, 121, 184, 0, 30, 154, 0, 7]
def kCcX3_yearTo_1 : List Nat := [4, 167, 0, 4, 3, 182, 0, 103, 153, 0, 6, 18, 192, 176, 187, 0, 194, 89, 183, 0, 196, 18, 192, 182, 0, 197, 42, 180, 0, 15, 28, 46]
def kCcX3_yearTo_2 : List Nat := [133, 42, 180, 0, 15, 27, 46, 133, 101, 178, 0, 123, 29, 46, 16, 12, 108, 133, 109, 182, 0, 201, 182, 0, 204, 176]
def kRcX3_yearTo_3 : List Nat := []
def kRcX3_yearTo_2 : List Nat := kCcX3_yearTo_2 ++ kRcX3_yearTo_3
def kRcX3_yearTo_1 : List Nat := kCcX3_yearTo_1 ++ kRcX3_yearTo_2
def kRcX3_yearTo_0 : List Nat := kCcX3_yearTo_0 ++ kRcX3_yearTo_1
theorem kRcX3_yearTo_eq : cX3_yearTo.data.toList.map UInt8.toNat = kRcX3_yearTo_0 := by decide +kernel
theorem katcX3_yearTo_0 (i : Nat) : (cX3_yearTo.data.toList.map UInt8.toNat)[0 + i]? = kRcX3_yearTo_0[i]? := by rw [kRcX3_yearTo_eq, Nat.zero_add]
theorem katcX3_yearTo_1 : ∀ i : Nat, (cX3_yearTo.data.toList.map UInt8.toNat)[32 + i]? = kRcX3_yearTo_1[i]? := kstep katcX3_yearTo_0 (C := kCcX3_yearTo_0) rfl rfl
theorem katcX3_yearTo_2 : ∀ i : Nat, (cX3_yearTo.data.toList.map UInt8.toNat)[64 + i]? = kRcX3_yearTo_2[i]? := kstep katcX3_yearTo_1 (C := kCcX3_yearTo_1) rfl rfl
theorem kBcX3_yearTo_0 {b : Nat} (p : Nat) (hp : Nat.ble 0 p = true) (h : kCcX3_yearTo_0[p - 0]? = some b) : kb cX3_yearTo p b := kin katcX3_yearTo_0 rfl hp h
theorem kBcX3_yearTo_1 {b : Nat} (p : Nat) (hp : Nat.ble 32 p = true) (h : kCcX3_yearTo_1[p - 32]? = some b) : kb cX3_yearTo p b := kin katcX3_yearTo_1 rfl hp h
theorem kBcX3_yearTo_2 {b : Nat} (p : Nat) (hp : Nat.ble 64 p = true) (h : kCcX3_yearTo_2[p - 64]? = some b) : kb cX3_yearTo p b := kin katcX3_yearTo_2 rfl hp h
theorem dX3_yearTo_0 : decode cX3_yearTo 0 = .ok (.aload_n 0, 1) := dz_42 (kBcX3_yearTo_0 0 rfl rfl)
theorem dX3_yearTo_1 : decode cX3_yearTo 1 = .ok (.iload_n 1, 1) := dz_27 (kBcX3_yearTo_0 1 rfl rfl)
theorem dX3_yearTo_2 : decode cX3_yearTo 2 = .ok (.invokestatic 96, 3) := dz_184 (kBcX3_yearTo_0 2 rfl rfl) (kBcX3_yearTo_0 3 rfl rfl) (kBcX3_yearTo_0 4 rfl rfl) rfl
theorem dX3_yearTo_5 : decode cX3_yearTo 5 = .ok (.ifCond .ne 10, 3) := dz_154 (kBcX3_yearTo_0 5 rfl rfl) (kBcX3_yearTo_0 6 rfl rfl) (kBcX3_yearTo_0 7 rfl rfl) rfl
theorem dX3_yearTo_8 : decode cX3_yearTo 8 = .ok (.iload_n 2, 1) := dz_28 (kBcX3_yearTo_0 8 rfl rfl)
theorem dX3_yearTo_9 : decode cX3_yearTo 9 = .ok (.invokestatic 96, 3) := dz_184 (kBcX3_yearTo_0 9 rfl rfl) (kBcX3_yearTo_0 10 rfl rfl) (kBcX3_yearTo_0 11 rfl rfl) rfl
theorem dX3_yearTo_12 : decode cX3_yearTo 12 = .ok (.ifCond .eq 7, 3) := dz_153 (kBcX3_yearTo_0 12 rfl rfl) (kBcX3_yearTo_0 13 rfl rfl) (kBcX3_yearTo_0 14 rfl rfl) rfl
theorem dX3_yearTo_15 : decode cX3_yearTo 15 = .ok (.iconst 1, 1) := dz_4 (kBcX3_yearTo_0 15 rfl rfl)
theorem dX3_yearTo_16 : decode cX3_yearTo 16 = .ok (.goto 4, 3) := dz_167 (kBcX3_yearTo_0 16 rfl rfl) (kBcX3_yearTo_0 17 rfl rfl) (kBcX3_yearTo_0 18 rfl rfl) rfl
theorem dX3_yearTo_19 : decode cX3_yearTo 19 = .ok (.iconst 0, 1) := dz_3 (kBcX3_yearTo_0 19 rfl rfl)
theorem dX3_yearTo_20 : decode cX3_yearTo 20 = .ok (.iload_n 3, 1) := dz_29 (kBcX3_yearTo_0 20 rfl rfl)
theorem dX3_yearTo_21 : decode cX3_yearTo 21 = .ok (.i2l, 1) := dz_133 (kBcX3_yearTo_0 21 rfl rfl)
theorem dX3_yearTo_22 : decode cX3_yearTo 22 = .ok (.lconst 1, 1) := dz_10 (kBcX3_yearTo_0 22 rfl rfl)
theorem dX3_yearTo_23 : decode cX3_yearTo 23 = .ok (.ldc2_w 121, 3) := dz_20 (kBcX3_yearTo_0 23 rfl rfl) (kBcX3_yearTo_0 24 rfl rfl) (kBcX3_yearTo_0 25 rfl rfl) rfl
theorem dX3_yearTo_26 : decode cX3_yearTo 26 = .ok (.invokestatic 30, 3) := dz_184 (kBcX3_yearTo_0 26 rfl rfl) (kBcX3_yearTo_0 27 rfl rfl) (kBcX3_yearTo_0 28 rfl rfl) rfl
theorem dX3_yearTo_29 : decode cX3_yearTo 29 = .ok (.ifCond .ne 7, 3) := dz_154 (kBcX3_yearTo_0 29 rfl rfl) (kBcX3_yearTo_0 30 rfl rfl) (kBcX3_yearTo_0 31 rfl rfl) rfl
theorem dX3_yearTo_32 : decode cX3_yearTo 32 = .ok (.iconst 1, 1) := dz_4 (kBcX3_yearTo_1 32 rfl rfl)
theorem dX3_yearTo_33 : decode cX3_yearTo 33 = .ok (.goto 4, 3) := dz_167 (kBcX3_yearTo_1 33 rfl rfl) (kBcX3_yearTo_1 34 rfl rfl) (kBcX3_yearTo_1 35 rfl rfl) rfl
theorem dX3_yearTo_36 : decode cX3_yearTo 36 = .ok (.iconst 0, 1) := dz_3 (kBcX3_yearTo_1 36 rfl rfl)
theorem dX3_yearTo_37 : decode cX3_yearTo 37 = .ok (.invokevirtual 103, 3) := dz_182 (kBcX3_yearTo_1 37 rfl rfl) (kBcX3_yearTo_1 38 rfl rfl) (kBcX3_yearTo_1 39 rfl rfl) rfl
theorem dX3_yearTo_40 : decode cX3_yearTo 40 = .ok (.ifCond .eq 6, 3) := dz_153 (kBcX3_yearTo_1 40 rfl rfl) (kBcX3_yearTo_1 41 rfl rfl) (kBcX3_yearTo_1 42 rfl rfl) rfl
theorem dX3_yearTo_43 : decode cX3_yearTo 43 = .ok (.ldc 192, 2) := dz_18 (kBcX3_yearTo_1 43 rfl rfl) (kBcX3_yearTo_1 44 rfl rfl)
theorem dX3_yearTo_45 : decode cX3_yearTo 45 = .ok (.areturn, 1) := dz_176 (kBcX3_yearTo_1 45 rfl rfl)
theorem dX3_yearTo_46 : decode cX3_yearTo 46 = .ok (.new 194, 3) := dz_187 (kBcX3_yearTo_1 46 rfl rfl) (kBcX3_yearTo_1 47 rfl rfl) (kBcX3_yearTo_1 48 rfl rfl) rfl
theorem dX3_yearTo_49 : decode cX3_yearTo 49 = .ok (.dup, 1) := dz_89 (kBcX3_yearTo_1 49 rfl rfl)
theorem dX3_yearTo_50 : decode cX3_yearTo 50 = .ok (.invokespecial 196, 3) := dz_183 (kBcX3_yearTo_1 50 rfl rfl) (kBcX3_yearTo_1 51 rfl rfl) (kBcX3_yearTo_1 52 rfl rfl) rfl
theorem dX3_yearTo_53 : decode cX3_yearTo 53 = .ok (.ldc 192, 2) := dz_18 (kBcX3_yearTo_1 53 rfl rfl) (kBcX3_yearTo_1 54 rfl rfl)
theorem dX3_yearTo_55 : decode cX3_yearTo 55 = .ok (.invokevirtual 197, 3) := dz_182 (kBcX3_yearTo_1 55 rfl rfl) (kBcX3_yearTo_1 56 rfl rfl) (kBcX3_yearTo_1 57 rfl rfl) rfl
theorem dX3_yearTo_58 : decode cX3_yearTo 58 = .ok (.aload_n 0, 1) := dz_42 (kBcX3_yearTo_1 58 rfl rfl)
theorem dX3_yearTo_59 : decode cX3_yearTo 59 = .ok (.getfield 15, 3) := dz_180 (kBcX3_yearTo_1 59 rfl rfl) (kBcX3_yearTo_1 60 rfl rfl) (kBcX3_yearTo_1 61 rfl rfl) rfl
theorem dX3_yearTo_62 : decode cX3_yearTo 62 = .ok (.iload_n 2, 1) := dz_28 (kBcX3_yearTo_1 62 rfl rfl)
theorem dX3_yearTo_63 : decode cX3_yearTo 63 = .ok (.iaload, 1) := dz_46 (kBcX3_yearTo_1 63 rfl rfl)
theorem dX3_yearTo_64 : decode cX3_yearTo 64 = .ok (.i2l, 1) := dz_133 (kBcX3_yearTo_2 64 rfl rfl)
theorem dX3_yearTo_65 : decode cX3_yearTo 65 = .ok (.aload_n 0, 1) := dz_42 (kBcX3_yearTo_2 65 rfl rfl)
theorem dX3_yearTo_66 : decode cX3_yearTo 66 = .ok (.getfield 15, 3) := dz_180 (kBcX3_yearTo_2 66 rfl rfl) (kBcX3_yearTo_2 67 rfl rfl) (kBcX3_yearTo_2 68 rfl rfl) rfl
theorem dX3_yearTo_69 : decode cX3_yearTo 69 = .ok (.iload_n 1, 1) := dz_27 (kBcX3_yearTo_2 69 rfl rfl)
theorem dX3_yearTo_70 : decode cX3_yearTo 70 = .ok (.iaload, 1) := dz_46 (kBcX3_yearTo_2 70 rfl rfl)
theorem dX3_yearTo_71 : decode cX3_yearTo 71 = .ok (.i2l, 1) := dz_133 (kBcX3_yearTo_2 71 rfl rfl)
theorem dX3_yearTo_72 : decode cX3_yearTo 72 = .ok (.lsub, 1) := dz_101 (kBcX3_yearTo_2 72 rfl rfl)
theorem dX3_yearTo_73 : decode cX3_yearTo 73 = .ok (.getstatic 123, 3) := dz_178 (kBcX3_yearTo_2 73 rfl rfl) (kBcX3_yearTo_2 74 rfl rfl) (kBcX3_yearTo_2 75 rfl rfl) rfl
theorem dX3_yearTo_76 : decode cX3_yearTo 76 = .ok (.iload_n 3, 1) := dz_29 (kBcX3_yearTo_2 76 rfl rfl)
theorem dX3_yearTo_77 : decode cX3_yearTo 77 = .ok (.iaload, 1) := dz_46 (kBcX3_yearTo_2 77 rfl rfl)
theorem dX3_yearTo_78 : decode cX3_yearTo 78 = .ok (.bipush 12, 2) := dz_16 (kBcX3_yearTo_2 78 rfl rfl) (kBcX3_yearTo_2 79 rfl rfl) rfl
theorem dX3_yearTo_80 : decode cX3_yearTo 80 = .ok (.idiv, 1) := dz_108 (kBcX3_yearTo_2 80 rfl rfl)
theorem dX3_yearTo_81 : decode cX3_yearTo 81 = .ok (.i2l, 1) := dz_133 (kBcX3_yearTo_2 81 rfl rfl)
theorem dX3_yearTo_82 : decode cX3_yearTo 82 = .ok (.ldiv, 1) := dz_109 (kBcX3_yearTo_2 82 rfl rfl)
theorem dX3_yearTo_83 : decode cX3_yearTo 83 = .ok (.invokevirtual 201, 3) := dz_182 (kBcX3_yearTo_2 83 rfl rfl) (kBcX3_yearTo_2 84 rfl rfl) (kBcX3_yearTo_2 85 rfl rfl) rfl
theorem dX3_yearTo_86 : decode cX3_yearTo 86 = .ok (.invokevirtual 204, 3) := dz_182 (kBcX3_yearTo_2 86 rfl rfl) (kBcX3_yearTo_2 87 rfl rfl) (kBcX3_yearTo_2 88 rfl rfl) rfl
theorem dX3_yearTo_89 : decode cX3_yearTo 89 = .ok (.areturn, 1) := dz_176 (kBcX3_yearTo_2 89 rfl rfl)
def kCcX3_feastTold_0 : List Nat := [42, 180, 0, 18, 27, 50, 78, 8, 188, 10, 89, 3, 45, 3, 46, 79, 89, 4, 45, 4, 46, 79, 89, 5, 45, 3, 46, 79, 89, 6, 10, 45]
def kCcX3_feastTold_1 : List Nat := [3, 46, 184, 0, 55, 79, 89, 7, 9, 45, 3, 46, 184, 0, 55, 79, 58, 4, 25, 4, 28, 46, 172]
def kRcX3_feastTold_2 : List Nat := []
def kRcX3_feastTold_1 : List Nat := kCcX3_feastTold_1 ++ kRcX3_feastTold_2
def kRcX3_feastTold_0 : List Nat := kCcX3_feastTold_0 ++ kRcX3_feastTold_1
theorem kRcX3_feastTold_eq : cX3_feastTold.data.toList.map UInt8.toNat = kRcX3_feastTold_0 := by decide +kernel
theorem katcX3_feastTold_0 (i : Nat) : (cX3_feastTold.data.toList.map UInt8.toNat)[0 + i]? = kRcX3_feastTold_0[i]? := by rw [kRcX3_feastTold_eq, Nat.zero_add]
theorem katcX3_feastTold_1 : ∀ i : Nat, (cX3_feastTold.data.toList.map UInt8.toNat)[32 + i]? = kRcX3_feastTold_1[i]? := kstep katcX3_feastTold_0 (C := kCcX3_feastTold_0) rfl rfl
theorem kBcX3_feastTold_0 {b : Nat} (p : Nat) (hp : Nat.ble 0 p = true) (h : kCcX3_feastTold_0[p - 0]? = some b) : kb cX3_feastTold p b := kin katcX3_feastTold_0 rfl hp h
theorem kBcX3_feastTold_1 {b : Nat} (p : Nat) (hp : Nat.ble 32 p = true) (h : kCcX3_feastTold_1[p - 32]? = some b) : kb cX3_feastTold p b := kin katcX3_feastTold_1 rfl hp h
theorem dX3_feastTold_0 : decode cX3_feastTold 0 = .ok (.aload_n 0, 1) := dz_42 (kBcX3_feastTold_0 0 rfl rfl)
theorem dX3_feastTold_1 : decode cX3_feastTold 1 = .ok (.getfield 18, 3) := dz_180 (kBcX3_feastTold_0 1 rfl rfl) (kBcX3_feastTold_0 2 rfl rfl) (kBcX3_feastTold_0 3 rfl rfl) rfl
theorem dX3_feastTold_4 : decode cX3_feastTold 4 = .ok (.iload_n 1, 1) := dz_27 (kBcX3_feastTold_0 4 rfl rfl)
theorem dX3_feastTold_5 : decode cX3_feastTold 5 = .ok (.aaload, 1) := dz_50 (kBcX3_feastTold_0 5 rfl rfl)
theorem dX3_feastTold_6 : decode cX3_feastTold 6 = .ok (.astore_n 3, 1) := dz_78 (kBcX3_feastTold_0 6 rfl rfl)
theorem dX3_feastTold_7 : decode cX3_feastTold 7 = .ok (.iconst 5, 1) := dz_8 (kBcX3_feastTold_0 7 rfl rfl)
theorem dX3_feastTold_8 : decode cX3_feastTold 8 = .ok (.newarray .int, 2) := by decide +kernel
theorem dX3_feastTold_10 : decode cX3_feastTold 10 = .ok (.dup, 1) := dz_89 (kBcX3_feastTold_0 10 rfl rfl)
theorem dX3_feastTold_11 : decode cX3_feastTold 11 = .ok (.iconst 0, 1) := dz_3 (kBcX3_feastTold_0 11 rfl rfl)
theorem dX3_feastTold_12 : decode cX3_feastTold 12 = .ok (.aload_n 3, 1) := dz_45 (kBcX3_feastTold_0 12 rfl rfl)
theorem dX3_feastTold_13 : decode cX3_feastTold 13 = .ok (.iconst 0, 1) := dz_3 (kBcX3_feastTold_0 13 rfl rfl)
theorem dX3_feastTold_14 : decode cX3_feastTold 14 = .ok (.iaload, 1) := dz_46 (kBcX3_feastTold_0 14 rfl rfl)
theorem dX3_feastTold_15 : decode cX3_feastTold 15 = .ok (.iastore, 1) := dz_79 (kBcX3_feastTold_0 15 rfl rfl)
theorem dX3_feastTold_16 : decode cX3_feastTold 16 = .ok (.dup, 1) := dz_89 (kBcX3_feastTold_0 16 rfl rfl)
theorem dX3_feastTold_17 : decode cX3_feastTold 17 = .ok (.iconst 1, 1) := dz_4 (kBcX3_feastTold_0 17 rfl rfl)
theorem dX3_feastTold_18 : decode cX3_feastTold 18 = .ok (.aload_n 3, 1) := dz_45 (kBcX3_feastTold_0 18 rfl rfl)
theorem dX3_feastTold_19 : decode cX3_feastTold 19 = .ok (.iconst 1, 1) := dz_4 (kBcX3_feastTold_0 19 rfl rfl)
theorem dX3_feastTold_20 : decode cX3_feastTold 20 = .ok (.iaload, 1) := dz_46 (kBcX3_feastTold_0 20 rfl rfl)
theorem dX3_feastTold_21 : decode cX3_feastTold 21 = .ok (.iastore, 1) := dz_79 (kBcX3_feastTold_0 21 rfl rfl)
theorem dX3_feastTold_22 : decode cX3_feastTold 22 = .ok (.dup, 1) := dz_89 (kBcX3_feastTold_0 22 rfl rfl)
theorem dX3_feastTold_23 : decode cX3_feastTold 23 = .ok (.iconst 2, 1) := dz_5 (kBcX3_feastTold_0 23 rfl rfl)
theorem dX3_feastTold_24 : decode cX3_feastTold 24 = .ok (.aload_n 3, 1) := dz_45 (kBcX3_feastTold_0 24 rfl rfl)
theorem dX3_feastTold_25 : decode cX3_feastTold 25 = .ok (.iconst 0, 1) := dz_3 (kBcX3_feastTold_0 25 rfl rfl)
theorem dX3_feastTold_26 : decode cX3_feastTold 26 = .ok (.iaload, 1) := dz_46 (kBcX3_feastTold_0 26 rfl rfl)
theorem dX3_feastTold_27 : decode cX3_feastTold 27 = .ok (.iastore, 1) := dz_79 (kBcX3_feastTold_0 27 rfl rfl)
theorem dX3_feastTold_28 : decode cX3_feastTold 28 = .ok (.dup, 1) := dz_89 (kBcX3_feastTold_0 28 rfl rfl)
theorem dX3_feastTold_29 : decode cX3_feastTold 29 = .ok (.iconst 3, 1) := dz_6 (kBcX3_feastTold_0 29 rfl rfl)
theorem dX3_feastTold_30 : decode cX3_feastTold 30 = .ok (.lconst 1, 1) := dz_10 (kBcX3_feastTold_0 30 rfl rfl)
theorem dX3_feastTold_31 : decode cX3_feastTold 31 = .ok (.aload_n 3, 1) := dz_45 (kBcX3_feastTold_0 31 rfl rfl)
theorem dX3_feastTold_32 : decode cX3_feastTold 32 = .ok (.iconst 0, 1) := dz_3 (kBcX3_feastTold_1 32 rfl rfl)
theorem dX3_feastTold_33 : decode cX3_feastTold 33 = .ok (.iaload, 1) := dz_46 (kBcX3_feastTold_1 33 rfl rfl)
theorem dX3_feastTold_34 : decode cX3_feastTold 34 = .ok (.invokestatic 55, 3) := dz_184 (kBcX3_feastTold_1 34 rfl rfl) (kBcX3_feastTold_1 35 rfl rfl) (kBcX3_feastTold_1 36 rfl rfl) rfl
theorem dX3_feastTold_37 : decode cX3_feastTold 37 = .ok (.iastore, 1) := dz_79 (kBcX3_feastTold_1 37 rfl rfl)
theorem dX3_feastTold_38 : decode cX3_feastTold 38 = .ok (.dup, 1) := dz_89 (kBcX3_feastTold_1 38 rfl rfl)
theorem dX3_feastTold_39 : decode cX3_feastTold 39 = .ok (.iconst 4, 1) := dz_7 (kBcX3_feastTold_1 39 rfl rfl)
theorem dX3_feastTold_40 : decode cX3_feastTold 40 = .ok (.lconst 0, 1) := dz_9 (kBcX3_feastTold_1 40 rfl rfl)
theorem dX3_feastTold_41 : decode cX3_feastTold 41 = .ok (.aload_n 3, 1) := dz_45 (kBcX3_feastTold_1 41 rfl rfl)
theorem dX3_feastTold_42 : decode cX3_feastTold 42 = .ok (.iconst 0, 1) := dz_3 (kBcX3_feastTold_1 42 rfl rfl)
theorem dX3_feastTold_43 : decode cX3_feastTold 43 = .ok (.iaload, 1) := dz_46 (kBcX3_feastTold_1 43 rfl rfl)
theorem dX3_feastTold_44 : decode cX3_feastTold 44 = .ok (.invokestatic 55, 3) := dz_184 (kBcX3_feastTold_1 44 rfl rfl) (kBcX3_feastTold_1 45 rfl rfl) (kBcX3_feastTold_1 46 rfl rfl) rfl
theorem dX3_feastTold_47 : decode cX3_feastTold 47 = .ok (.iastore, 1) := dz_79 (kBcX3_feastTold_1 47 rfl rfl)
theorem dX3_feastTold_48 : decode cX3_feastTold 48 = .ok (.astore 4, 2) := dz_58 (kBcX3_feastTold_1 48 rfl rfl) (kBcX3_feastTold_1 49 rfl rfl)
theorem dX3_feastTold_50 : decode cX3_feastTold 50 = .ok (.aload 4, 2) := dz_25 (kBcX3_feastTold_1 50 rfl rfl) (kBcX3_feastTold_1 51 rfl rfl)
theorem dX3_feastTold_52 : decode cX3_feastTold 52 = .ok (.iload_n 2, 1) := dz_28 (kBcX3_feastTold_1 52 rfl rfl)
theorem dX3_feastTold_53 : decode cX3_feastTold 53 = .ok (.iaload, 1) := dz_46 (kBcX3_feastTold_1 53 rfl rfl)
theorem dX3_feastTold_54 : decode cX3_feastTold 54 = .ok (.ireturn, 1) := dz_172 (kBcX3_feastTold_1 54 rfl rfl)
def kCcX3_ofFeast_0 : List Nat := [42, 27, 184, 0, 96, 28, 133, 9, 20, 0, 121, 184, 0, 30, 154, 0, 7, 4, 167, 0, 4, 3, 182, 0, 103, 153, 0, 7, 3, 167, 0, 9]
def kCcX3_ofFeast_1 : List Nat := [42, 27, 28, 182, 0, 225, 172]
def kRcX3_ofFeast_2 : List Nat := []
def kRcX3_ofFeast_1 : List Nat := kCcX3_ofFeast_1 ++ kRcX3_ofFeast_2
def kRcX3_ofFeast_0 : List Nat := kCcX3_ofFeast_0 ++ kRcX3_ofFeast_1
theorem kRcX3_ofFeast_eq : cX3_ofFeast.data.toList.map UInt8.toNat = kRcX3_ofFeast_0 := by decide +kernel
theorem katcX3_ofFeast_0 (i : Nat) : (cX3_ofFeast.data.toList.map UInt8.toNat)[0 + i]? = kRcX3_ofFeast_0[i]? := by rw [kRcX3_ofFeast_eq, Nat.zero_add]
theorem katcX3_ofFeast_1 : ∀ i : Nat, (cX3_ofFeast.data.toList.map UInt8.toNat)[32 + i]? = kRcX3_ofFeast_1[i]? := kstep katcX3_ofFeast_0 (C := kCcX3_ofFeast_0) rfl rfl
theorem kBcX3_ofFeast_0 {b : Nat} (p : Nat) (hp : Nat.ble 0 p = true) (h : kCcX3_ofFeast_0[p - 0]? = some b) : kb cX3_ofFeast p b := kin katcX3_ofFeast_0 rfl hp h
theorem kBcX3_ofFeast_1 {b : Nat} (p : Nat) (hp : Nat.ble 32 p = true) (h : kCcX3_ofFeast_1[p - 32]? = some b) : kb cX3_ofFeast p b := kin katcX3_ofFeast_1 rfl hp h
theorem dX3_ofFeast_0 : decode cX3_ofFeast 0 = .ok (.aload_n 0, 1) := dz_42 (kBcX3_ofFeast_0 0 rfl rfl)
theorem dX3_ofFeast_1 : decode cX3_ofFeast 1 = .ok (.iload_n 1, 1) := dz_27 (kBcX3_ofFeast_0 1 rfl rfl)
theorem dX3_ofFeast_2 : decode cX3_ofFeast 2 = .ok (.invokestatic 96, 3) := dz_184 (kBcX3_ofFeast_0 2 rfl rfl) (kBcX3_ofFeast_0 3 rfl rfl) (kBcX3_ofFeast_0 4 rfl rfl) rfl
theorem dX3_ofFeast_5 : decode cX3_ofFeast 5 = .ok (.iload_n 2, 1) := dz_28 (kBcX3_ofFeast_0 5 rfl rfl)
theorem dX3_ofFeast_6 : decode cX3_ofFeast 6 = .ok (.i2l, 1) := dz_133 (kBcX3_ofFeast_0 6 rfl rfl)
theorem dX3_ofFeast_7 : decode cX3_ofFeast 7 = .ok (.lconst 0, 1) := dz_9 (kBcX3_ofFeast_0 7 rfl rfl)
theorem dX3_ofFeast_8 : decode cX3_ofFeast 8 = .ok (.ldc2_w 121, 3) := dz_20 (kBcX3_ofFeast_0 8 rfl rfl) (kBcX3_ofFeast_0 9 rfl rfl) (kBcX3_ofFeast_0 10 rfl rfl) rfl
theorem dX3_ofFeast_11 : decode cX3_ofFeast 11 = .ok (.invokestatic 30, 3) := dz_184 (kBcX3_ofFeast_0 11 rfl rfl) (kBcX3_ofFeast_0 12 rfl rfl) (kBcX3_ofFeast_0 13 rfl rfl) rfl
theorem dX3_ofFeast_14 : decode cX3_ofFeast 14 = .ok (.ifCond .ne 7, 3) := dz_154 (kBcX3_ofFeast_0 14 rfl rfl) (kBcX3_ofFeast_0 15 rfl rfl) (kBcX3_ofFeast_0 16 rfl rfl) rfl
theorem dX3_ofFeast_17 : decode cX3_ofFeast 17 = .ok (.iconst 1, 1) := dz_4 (kBcX3_ofFeast_0 17 rfl rfl)
theorem dX3_ofFeast_18 : decode cX3_ofFeast 18 = .ok (.goto 4, 3) := dz_167 (kBcX3_ofFeast_0 18 rfl rfl) (kBcX3_ofFeast_0 19 rfl rfl) (kBcX3_ofFeast_0 20 rfl rfl) rfl
theorem dX3_ofFeast_21 : decode cX3_ofFeast 21 = .ok (.iconst 0, 1) := dz_3 (kBcX3_ofFeast_0 21 rfl rfl)
theorem dX3_ofFeast_22 : decode cX3_ofFeast 22 = .ok (.invokevirtual 103, 3) := dz_182 (kBcX3_ofFeast_0 22 rfl rfl) (kBcX3_ofFeast_0 23 rfl rfl) (kBcX3_ofFeast_0 24 rfl rfl) rfl
theorem dX3_ofFeast_25 : decode cX3_ofFeast 25 = .ok (.ifCond .eq 7, 3) := dz_153 (kBcX3_ofFeast_0 25 rfl rfl) (kBcX3_ofFeast_0 26 rfl rfl) (kBcX3_ofFeast_0 27 rfl rfl) rfl
theorem dX3_ofFeast_28 : decode cX3_ofFeast 28 = .ok (.iconst 0, 1) := dz_3 (kBcX3_ofFeast_0 28 rfl rfl)
theorem dX3_ofFeast_29 : decode cX3_ofFeast 29 = .ok (.goto 9, 3) := dz_167 (kBcX3_ofFeast_0 29 rfl rfl) (kBcX3_ofFeast_0 30 rfl rfl) (kBcX3_ofFeast_0 31 rfl rfl) rfl
theorem dX3_ofFeast_32 : decode cX3_ofFeast 32 = .ok (.aload_n 0, 1) := dz_42 (kBcX3_ofFeast_1 32 rfl rfl)
theorem dX3_ofFeast_33 : decode cX3_ofFeast 33 = .ok (.iload_n 1, 1) := dz_27 (kBcX3_ofFeast_1 33 rfl rfl)
theorem dX3_ofFeast_34 : decode cX3_ofFeast 34 = .ok (.iload_n 2, 1) := dz_28 (kBcX3_ofFeast_1 34 rfl rfl)
theorem dX3_ofFeast_35 : decode cX3_ofFeast 35 = .ok (.invokevirtual 225, 3) := dz_182 (kBcX3_ofFeast_1 35 rfl rfl) (kBcX3_ofFeast_1 36 rfl rfl) (kBcX3_ofFeast_1 37 rfl rfl) rfl
theorem dX3_ofFeast_38 : decode cX3_ofFeast 38 = .ok (.ireturn, 1) := dz_172 (kBcX3_ofFeast_1 38 rfl rfl)
def kCcX3_isInYear_0 : List Nat := [42, 27, 184, 0, 96, 28, 133, 184, 0, 90, 182, 0, 103, 154, 0, 21, 42, 180, 0, 18, 27, 50, 28, 133, 184, 0, 82, 153, 0, 7, 4, 167]
def kCcX3_isInYear_1 : List Nat := [0, 4, 3, 172]
def kRcX3_isInYear_2 : List Nat := []
def kRcX3_isInYear_1 : List Nat := kCcX3_isInYear_1 ++ kRcX3_isInYear_2
def kRcX3_isInYear_0 : List Nat := kCcX3_isInYear_0 ++ kRcX3_isInYear_1
theorem kRcX3_isInYear_eq : cX3_isInYear.data.toList.map UInt8.toNat = kRcX3_isInYear_0 := by decide +kernel
theorem katcX3_isInYear_0 (i : Nat) : (cX3_isInYear.data.toList.map UInt8.toNat)[0 + i]? = kRcX3_isInYear_0[i]? := by rw [kRcX3_isInYear_eq, Nat.zero_add]
theorem katcX3_isInYear_1 : ∀ i : Nat, (cX3_isInYear.data.toList.map UInt8.toNat)[32 + i]? = kRcX3_isInYear_1[i]? := kstep katcX3_isInYear_0 (C := kCcX3_isInYear_0) rfl rfl
theorem kBcX3_isInYear_0 {b : Nat} (p : Nat) (hp : Nat.ble 0 p = true) (h : kCcX3_isInYear_0[p - 0]? = some b) : kb cX3_isInYear p b := kin katcX3_isInYear_0 rfl hp h
theorem kBcX3_isInYear_1 {b : Nat} (p : Nat) (hp : Nat.ble 32 p = true) (h : kCcX3_isInYear_1[p - 32]? = some b) : kb cX3_isInYear p b := kin katcX3_isInYear_1 rfl hp h
theorem dX3_isInYear_0 : decode cX3_isInYear 0 = .ok (.aload_n 0, 1) := dz_42 (kBcX3_isInYear_0 0 rfl rfl)
theorem dX3_isInYear_1 : decode cX3_isInYear 1 = .ok (.iload_n 1, 1) := dz_27 (kBcX3_isInYear_0 1 rfl rfl)
theorem dX3_isInYear_2 : decode cX3_isInYear 2 = .ok (.invokestatic 96, 3) := dz_184 (kBcX3_isInYear_0 2 rfl rfl) (kBcX3_isInYear_0 3 rfl rfl) (kBcX3_isInYear_0 4 rfl rfl) rfl
theorem dX3_isInYear_5 : decode cX3_isInYear 5 = .ok (.iload_n 2, 1) := dz_28 (kBcX3_isInYear_0 5 rfl rfl)
theorem dX3_isInYear_6 : decode cX3_isInYear 6 = .ok (.i2l, 1) := dz_133 (kBcX3_isInYear_0 6 rfl rfl)
theorem dX3_isInYear_7 : decode cX3_isInYear 7 = .ok (.invokestatic 90, 3) := dz_184 (kBcX3_isInYear_0 7 rfl rfl) (kBcX3_isInYear_0 8 rfl rfl) (kBcX3_isInYear_0 9 rfl rfl) rfl
theorem dX3_isInYear_10 : decode cX3_isInYear 10 = .ok (.invokevirtual 103, 3) := dz_182 (kBcX3_isInYear_0 10 rfl rfl) (kBcX3_isInYear_0 11 rfl rfl) (kBcX3_isInYear_0 12 rfl rfl) rfl
theorem dX3_isInYear_13 : decode cX3_isInYear 13 = .ok (.ifCond .ne 21, 3) := dz_154 (kBcX3_isInYear_0 13 rfl rfl) (kBcX3_isInYear_0 14 rfl rfl) (kBcX3_isInYear_0 15 rfl rfl) rfl
theorem dX3_isInYear_16 : decode cX3_isInYear 16 = .ok (.aload_n 0, 1) := dz_42 (kBcX3_isInYear_0 16 rfl rfl)
theorem dX3_isInYear_17 : decode cX3_isInYear 17 = .ok (.getfield 18, 3) := dz_180 (kBcX3_isInYear_0 17 rfl rfl) (kBcX3_isInYear_0 18 rfl rfl) (kBcX3_isInYear_0 19 rfl rfl) rfl
theorem dX3_isInYear_20 : decode cX3_isInYear 20 = .ok (.iload_n 1, 1) := dz_27 (kBcX3_isInYear_0 20 rfl rfl)
theorem dX3_isInYear_21 : decode cX3_isInYear 21 = .ok (.aaload, 1) := dz_50 (kBcX3_isInYear_0 21 rfl rfl)
theorem dX3_isInYear_22 : decode cX3_isInYear 22 = .ok (.iload_n 2, 1) := dz_28 (kBcX3_isInYear_0 22 rfl rfl)
theorem dX3_isInYear_23 : decode cX3_isInYear 23 = .ok (.i2l, 1) := dz_133 (kBcX3_isInYear_0 23 rfl rfl)
theorem dX3_isInYear_24 : decode cX3_isInYear 24 = .ok (.invokestatic 82, 3) := dz_184 (kBcX3_isInYear_0 24 rfl rfl) (kBcX3_isInYear_0 25 rfl rfl) (kBcX3_isInYear_0 26 rfl rfl) rfl
theorem dX3_isInYear_27 : decode cX3_isInYear 27 = .ok (.ifCond .eq 7, 3) := dz_153 (kBcX3_isInYear_0 27 rfl rfl) (kBcX3_isInYear_0 28 rfl rfl) (kBcX3_isInYear_0 29 rfl rfl) rfl
theorem dX3_isInYear_30 : decode cX3_isInYear 30 = .ok (.iconst 1, 1) := dz_4 (kBcX3_isInYear_0 30 rfl rfl)
theorem dX3_isInYear_31 : decode cX3_isInYear 31 = .ok (.goto 4, 3) := dz_167 (kBcX3_isInYear_0 31 rfl rfl) (kBcX3_isInYear_1 32 rfl rfl) (kBcX3_isInYear_1 33 rfl rfl) rfl
theorem dX3_isInYear_34 : decode cX3_isInYear 34 = .ok (.iconst 0, 1) := dz_3 (kBcX3_isInYear_1 34 rfl rfl)
theorem dX3_isInYear_35 : decode cX3_isInYear 35 = .ok (.ireturn, 1) := dz_172 (kBcX3_isInYear_1 35 rfl rfl)
def kCcX3_feastOrder_0 : List Nat := [42, 27, 184, 0, 96, 154, 0, 10, 28, 184, 0, 96, 153, 0, 7, 4, 167, 0, 4, 3, 29, 184, 0, 208, 182, 0, 103, 153, 0, 5, 3, 172]
def kCcX3_feastOrder_1 : List Nat := [16, 32, 42, 180, 0, 18, 27, 50, 3, 46, 104, 42, 180, 0, 18, 27, 50, 4, 46, 96, 133, 16, 32, 42, 180, 0, 18, 28, 50, 3, 46, 104]
def kCcX3_feastOrder_2 : List Nat := [42, 180, 0, 18, 28, 50, 4, 46, 96, 133, 29, 184, 0, 211, 172]
def kRcX3_feastOrder_3 : List Nat := []
def kRcX3_feastOrder_2 : List Nat := kCcX3_feastOrder_2 ++ kRcX3_feastOrder_3
def kRcX3_feastOrder_1 : List Nat := kCcX3_feastOrder_1 ++ kRcX3_feastOrder_2
def kRcX3_feastOrder_0 : List Nat := kCcX3_feastOrder_0 ++ kRcX3_feastOrder_1
theorem kRcX3_feastOrder_eq : cX3_feastOrder.data.toList.map UInt8.toNat = kRcX3_feastOrder_0 := by decide +kernel
theorem katcX3_feastOrder_0 (i : Nat) : (cX3_feastOrder.data.toList.map UInt8.toNat)[0 + i]? = kRcX3_feastOrder_0[i]? := by rw [kRcX3_feastOrder_eq, Nat.zero_add]
theorem katcX3_feastOrder_1 : ∀ i : Nat, (cX3_feastOrder.data.toList.map UInt8.toNat)[32 + i]? = kRcX3_feastOrder_1[i]? := kstep katcX3_feastOrder_0 (C := kCcX3_feastOrder_0) rfl rfl
theorem katcX3_feastOrder_2 : ∀ i : Nat, (cX3_feastOrder.data.toList.map UInt8.toNat)[64 + i]? = kRcX3_feastOrder_2[i]? := kstep katcX3_feastOrder_1 (C := kCcX3_feastOrder_1) rfl rfl
theorem kBcX3_feastOrder_0 {b : Nat} (p : Nat) (hp : Nat.ble 0 p = true) (h : kCcX3_feastOrder_0[p - 0]? = some b) : kb cX3_feastOrder p b := kin katcX3_feastOrder_0 rfl hp h
theorem kBcX3_feastOrder_1 {b : Nat} (p : Nat) (hp : Nat.ble 32 p = true) (h : kCcX3_feastOrder_1[p - 32]? = some b) : kb cX3_feastOrder p b := kin katcX3_feastOrder_1 rfl hp h
theorem kBcX3_feastOrder_2 {b : Nat} (p : Nat) (hp : Nat.ble 64 p = true) (h : kCcX3_feastOrder_2[p - 64]? = some b) : kb cX3_feastOrder p b := kin katcX3_feastOrder_2 rfl hp h
theorem dX3_feastOrder_0 : decode cX3_feastOrder 0 = .ok (.aload_n 0, 1) := dz_42 (kBcX3_feastOrder_0 0 rfl rfl)
theorem dX3_feastOrder_1 : decode cX3_feastOrder 1 = .ok (.iload_n 1, 1) := dz_27 (kBcX3_feastOrder_0 1 rfl rfl)
theorem dX3_feastOrder_2 : decode cX3_feastOrder 2 = .ok (.invokestatic 96, 3) := dz_184 (kBcX3_feastOrder_0 2 rfl rfl) (kBcX3_feastOrder_0 3 rfl rfl) (kBcX3_feastOrder_0 4 rfl rfl) rfl
theorem dX3_feastOrder_5 : decode cX3_feastOrder 5 = .ok (.ifCond .ne 10, 3) := dz_154 (kBcX3_feastOrder_0 5 rfl rfl) (kBcX3_feastOrder_0 6 rfl rfl) (kBcX3_feastOrder_0 7 rfl rfl) rfl
theorem dX3_feastOrder_8 : decode cX3_feastOrder 8 = .ok (.iload_n 2, 1) := dz_28 (kBcX3_feastOrder_0 8 rfl rfl)
theorem dX3_feastOrder_9 : decode cX3_feastOrder 9 = .ok (.invokestatic 96, 3) := dz_184 (kBcX3_feastOrder_0 9 rfl rfl) (kBcX3_feastOrder_0 10 rfl rfl) (kBcX3_feastOrder_0 11 rfl rfl) rfl
theorem dX3_feastOrder_12 : decode cX3_feastOrder 12 = .ok (.ifCond .eq 7, 3) := dz_153 (kBcX3_feastOrder_0 12 rfl rfl) (kBcX3_feastOrder_0 13 rfl rfl) (kBcX3_feastOrder_0 14 rfl rfl) rfl
theorem dX3_feastOrder_15 : decode cX3_feastOrder 15 = .ok (.iconst 1, 1) := dz_4 (kBcX3_feastOrder_0 15 rfl rfl)
theorem dX3_feastOrder_16 : decode cX3_feastOrder 16 = .ok (.goto 4, 3) := dz_167 (kBcX3_feastOrder_0 16 rfl rfl) (kBcX3_feastOrder_0 17 rfl rfl) (kBcX3_feastOrder_0 18 rfl rfl) rfl
theorem dX3_feastOrder_19 : decode cX3_feastOrder 19 = .ok (.iconst 0, 1) := dz_3 (kBcX3_feastOrder_0 19 rfl rfl)
theorem dX3_feastOrder_20 : decode cX3_feastOrder 20 = .ok (.iload_n 3, 1) := dz_29 (kBcX3_feastOrder_0 20 rfl rfl)
theorem dX3_feastOrder_21 : decode cX3_feastOrder 21 = .ok (.invokestatic 208, 3) := dz_184 (kBcX3_feastOrder_0 21 rfl rfl) (kBcX3_feastOrder_0 22 rfl rfl) (kBcX3_feastOrder_0 23 rfl rfl) rfl
theorem dX3_feastOrder_24 : decode cX3_feastOrder 24 = .ok (.invokevirtual 103, 3) := dz_182 (kBcX3_feastOrder_0 24 rfl rfl) (kBcX3_feastOrder_0 25 rfl rfl) (kBcX3_feastOrder_0 26 rfl rfl) rfl
theorem dX3_feastOrder_27 : decode cX3_feastOrder 27 = .ok (.ifCond .eq 5, 3) := dz_153 (kBcX3_feastOrder_0 27 rfl rfl) (kBcX3_feastOrder_0 28 rfl rfl) (kBcX3_feastOrder_0 29 rfl rfl) rfl
theorem dX3_feastOrder_30 : decode cX3_feastOrder 30 = .ok (.iconst 0, 1) := dz_3 (kBcX3_feastOrder_0 30 rfl rfl)
theorem dX3_feastOrder_31 : decode cX3_feastOrder 31 = .ok (.ireturn, 1) := dz_172 (kBcX3_feastOrder_0 31 rfl rfl)
theorem dX3_feastOrder_32 : decode cX3_feastOrder 32 = .ok (.bipush 32, 2) := dz_16 (kBcX3_feastOrder_1 32 rfl rfl) (kBcX3_feastOrder_1 33 rfl rfl) rfl
theorem dX3_feastOrder_34 : decode cX3_feastOrder 34 = .ok (.aload_n 0, 1) := dz_42 (kBcX3_feastOrder_1 34 rfl rfl)
theorem dX3_feastOrder_35 : decode cX3_feastOrder 35 = .ok (.getfield 18, 3) := dz_180 (kBcX3_feastOrder_1 35 rfl rfl) (kBcX3_feastOrder_1 36 rfl rfl) (kBcX3_feastOrder_1 37 rfl rfl) rfl
theorem dX3_feastOrder_38 : decode cX3_feastOrder 38 = .ok (.iload_n 1, 1) := dz_27 (kBcX3_feastOrder_1 38 rfl rfl)
theorem dX3_feastOrder_39 : decode cX3_feastOrder 39 = .ok (.aaload, 1) := dz_50 (kBcX3_feastOrder_1 39 rfl rfl)
theorem dX3_feastOrder_40 : decode cX3_feastOrder 40 = .ok (.iconst 0, 1) := dz_3 (kBcX3_feastOrder_1 40 rfl rfl)
theorem dX3_feastOrder_41 : decode cX3_feastOrder 41 = .ok (.iaload, 1) := dz_46 (kBcX3_feastOrder_1 41 rfl rfl)
theorem dX3_feastOrder_42 : decode cX3_feastOrder 42 = .ok (.imul, 1) := dz_104 (kBcX3_feastOrder_1 42 rfl rfl)
theorem dX3_feastOrder_43 : decode cX3_feastOrder 43 = .ok (.aload_n 0, 1) := dz_42 (kBcX3_feastOrder_1 43 rfl rfl)
theorem dX3_feastOrder_44 : decode cX3_feastOrder 44 = .ok (.getfield 18, 3) := dz_180 (kBcX3_feastOrder_1 44 rfl rfl) (kBcX3_feastOrder_1 45 rfl rfl) (kBcX3_feastOrder_1 46 rfl rfl) rfl
theorem dX3_feastOrder_47 : decode cX3_feastOrder 47 = .ok (.iload_n 1, 1) := dz_27 (kBcX3_feastOrder_1 47 rfl rfl)
theorem dX3_feastOrder_48 : decode cX3_feastOrder 48 = .ok (.aaload, 1) := dz_50 (kBcX3_feastOrder_1 48 rfl rfl)
theorem dX3_feastOrder_49 : decode cX3_feastOrder 49 = .ok (.iconst 1, 1) := dz_4 (kBcX3_feastOrder_1 49 rfl rfl)
theorem dX3_feastOrder_50 : decode cX3_feastOrder 50 = .ok (.iaload, 1) := dz_46 (kBcX3_feastOrder_1 50 rfl rfl)
theorem dX3_feastOrder_51 : decode cX3_feastOrder 51 = .ok (.iadd, 1) := dz_96 (kBcX3_feastOrder_1 51 rfl rfl)
theorem dX3_feastOrder_52 : decode cX3_feastOrder 52 = .ok (.i2l, 1) := dz_133 (kBcX3_feastOrder_1 52 rfl rfl)
theorem dX3_feastOrder_53 : decode cX3_feastOrder 53 = .ok (.bipush 32, 2) := dz_16 (kBcX3_feastOrder_1 53 rfl rfl) (kBcX3_feastOrder_1 54 rfl rfl) rfl
theorem dX3_feastOrder_55 : decode cX3_feastOrder 55 = .ok (.aload_n 0, 1) := dz_42 (kBcX3_feastOrder_1 55 rfl rfl)
theorem dX3_feastOrder_56 : decode cX3_feastOrder 56 = .ok (.getfield 18, 3) := dz_180 (kBcX3_feastOrder_1 56 rfl rfl) (kBcX3_feastOrder_1 57 rfl rfl) (kBcX3_feastOrder_1 58 rfl rfl) rfl
theorem dX3_feastOrder_59 : decode cX3_feastOrder 59 = .ok (.iload_n 2, 1) := dz_28 (kBcX3_feastOrder_1 59 rfl rfl)
theorem dX3_feastOrder_60 : decode cX3_feastOrder 60 = .ok (.aaload, 1) := dz_50 (kBcX3_feastOrder_1 60 rfl rfl)
theorem dX3_feastOrder_61 : decode cX3_feastOrder 61 = .ok (.iconst 0, 1) := dz_3 (kBcX3_feastOrder_1 61 rfl rfl)
theorem dX3_feastOrder_62 : decode cX3_feastOrder 62 = .ok (.iaload, 1) := dz_46 (kBcX3_feastOrder_1 62 rfl rfl)
theorem dX3_feastOrder_63 : decode cX3_feastOrder 63 = .ok (.imul, 1) := dz_104 (kBcX3_feastOrder_1 63 rfl rfl)
theorem dX3_feastOrder_64 : decode cX3_feastOrder 64 = .ok (.aload_n 0, 1) := dz_42 (kBcX3_feastOrder_2 64 rfl rfl)
theorem dX3_feastOrder_65 : decode cX3_feastOrder 65 = .ok (.getfield 18, 3) := dz_180 (kBcX3_feastOrder_2 65 rfl rfl) (kBcX3_feastOrder_2 66 rfl rfl) (kBcX3_feastOrder_2 67 rfl rfl) rfl
theorem dX3_feastOrder_68 : decode cX3_feastOrder 68 = .ok (.iload_n 2, 1) := dz_28 (kBcX3_feastOrder_2 68 rfl rfl)
theorem dX3_feastOrder_69 : decode cX3_feastOrder 69 = .ok (.aaload, 1) := dz_50 (kBcX3_feastOrder_2 69 rfl rfl)
theorem dX3_feastOrder_70 : decode cX3_feastOrder 70 = .ok (.iconst 1, 1) := dz_4 (kBcX3_feastOrder_2 70 rfl rfl)
theorem dX3_feastOrder_71 : decode cX3_feastOrder 71 = .ok (.iaload, 1) := dz_46 (kBcX3_feastOrder_2 71 rfl rfl)
theorem dX3_feastOrder_72 : decode cX3_feastOrder 72 = .ok (.iadd, 1) := dz_96 (kBcX3_feastOrder_2 72 rfl rfl)
theorem dX3_feastOrder_73 : decode cX3_feastOrder 73 = .ok (.i2l, 1) := dz_133 (kBcX3_feastOrder_2 73 rfl rfl)
theorem dX3_feastOrder_74 : decode cX3_feastOrder 74 = .ok (.iload_n 3, 1) := dz_29 (kBcX3_feastOrder_2 74 rfl rfl)
theorem dX3_feastOrder_75 : decode cX3_feastOrder 75 = .ok (.invokestatic 211, 3) := dz_184 (kBcX3_feastOrder_2 75 rfl rfl) (kBcX3_feastOrder_2 76 rfl rfl) (kBcX3_feastOrder_2 77 rfl rfl) rfl
theorem dX3_feastOrder_78 : decode cX3_feastOrder 78 = .ok (.ireturn, 1) := dz_172 (kBcX3_feastOrder_2 78 rfl rfl)
def kCcX3_isFeast_0 : List Nat := [42, 27, 28, 29, 182, 0, 215, 154, 0, 30, 28, 5, 160, 0, 25, 42, 180, 0, 18, 27, 50, 42, 180, 0, 18, 29, 50, 184, 0, 144, 153, 0]
def kCcX3_isFeast_1 : List Nat := [7, 4, 167, 0, 4, 3, 172]
def kRcX3_isFeast_2 : List Nat := []
def kRcX3_isFeast_1 : List Nat := kCcX3_isFeast_1 ++ kRcX3_isFeast_2
def kRcX3_isFeast_0 : List Nat := kCcX3_isFeast_0 ++ kRcX3_isFeast_1
theorem kRcX3_isFeast_eq : cX3_isFeast.data.toList.map UInt8.toNat = kRcX3_isFeast_0 := by decide +kernel
theorem katcX3_isFeast_0 (i : Nat) : (cX3_isFeast.data.toList.map UInt8.toNat)[0 + i]? = kRcX3_isFeast_0[i]? := by rw [kRcX3_isFeast_eq, Nat.zero_add]
theorem katcX3_isFeast_1 : ∀ i : Nat, (cX3_isFeast.data.toList.map UInt8.toNat)[32 + i]? = kRcX3_isFeast_1[i]? := kstep katcX3_isFeast_0 (C := kCcX3_isFeast_0) rfl rfl
theorem kBcX3_isFeast_0 {b : Nat} (p : Nat) (hp : Nat.ble 0 p = true) (h : kCcX3_isFeast_0[p - 0]? = some b) : kb cX3_isFeast p b := kin katcX3_isFeast_0 rfl hp h
theorem kBcX3_isFeast_1 {b : Nat} (p : Nat) (hp : Nat.ble 32 p = true) (h : kCcX3_isFeast_1[p - 32]? = some b) : kb cX3_isFeast p b := kin katcX3_isFeast_1 rfl hp h
theorem dX3_isFeast_0 : decode cX3_isFeast 0 = .ok (.aload_n 0, 1) := dz_42 (kBcX3_isFeast_0 0 rfl rfl)
theorem dX3_isFeast_1 : decode cX3_isFeast 1 = .ok (.iload_n 1, 1) := dz_27 (kBcX3_isFeast_0 1 rfl rfl)
theorem dX3_isFeast_2 : decode cX3_isFeast 2 = .ok (.iload_n 2, 1) := dz_28 (kBcX3_isFeast_0 2 rfl rfl)
theorem dX3_isFeast_3 : decode cX3_isFeast 3 = .ok (.iload_n 3, 1) := dz_29 (kBcX3_isFeast_0 3 rfl rfl)
theorem dX3_isFeast_4 : decode cX3_isFeast 4 = .ok (.invokevirtual 215, 3) := dz_182 (kBcX3_isFeast_0 4 rfl rfl) (kBcX3_isFeast_0 5 rfl rfl) (kBcX3_isFeast_0 6 rfl rfl) rfl
theorem dX3_isFeast_7 : decode cX3_isFeast 7 = .ok (.ifCond .ne 30, 3) := dz_154 (kBcX3_isFeast_0 7 rfl rfl) (kBcX3_isFeast_0 8 rfl rfl) (kBcX3_isFeast_0 9 rfl rfl) rfl
theorem dX3_isFeast_10 : decode cX3_isFeast 10 = .ok (.iload_n 2, 1) := dz_28 (kBcX3_isFeast_0 10 rfl rfl)
theorem dX3_isFeast_11 : decode cX3_isFeast 11 = .ok (.iconst 2, 1) := dz_5 (kBcX3_isFeast_0 11 rfl rfl)
theorem dX3_isFeast_12 : decode cX3_isFeast 12 = .ok (.if_icmp .ne 25, 3) := dz_160 (kBcX3_isFeast_0 12 rfl rfl) (kBcX3_isFeast_0 13 rfl rfl) (kBcX3_isFeast_0 14 rfl rfl) rfl
theorem dX3_isFeast_15 : decode cX3_isFeast 15 = .ok (.aload_n 0, 1) := dz_42 (kBcX3_isFeast_0 15 rfl rfl)
theorem dX3_isFeast_16 : decode cX3_isFeast 16 = .ok (.getfield 18, 3) := dz_180 (kBcX3_isFeast_0 16 rfl rfl) (kBcX3_isFeast_0 17 rfl rfl) (kBcX3_isFeast_0 18 rfl rfl) rfl
theorem dX3_isFeast_19 : decode cX3_isFeast 19 = .ok (.iload_n 1, 1) := dz_27 (kBcX3_isFeast_0 19 rfl rfl)
theorem dX3_isFeast_20 : decode cX3_isFeast 20 = .ok (.aaload, 1) := dz_50 (kBcX3_isFeast_0 20 rfl rfl)
theorem dX3_isFeast_21 : decode cX3_isFeast 21 = .ok (.aload_n 0, 1) := dz_42 (kBcX3_isFeast_0 21 rfl rfl)
theorem dX3_isFeast_22 : decode cX3_isFeast 22 = .ok (.getfield 18, 3) := dz_180 (kBcX3_isFeast_0 22 rfl rfl) (kBcX3_isFeast_0 23 rfl rfl) (kBcX3_isFeast_0 24 rfl rfl) rfl
theorem dX3_isFeast_25 : decode cX3_isFeast 25 = .ok (.iload_n 3, 1) := dz_29 (kBcX3_isFeast_0 25 rfl rfl)
theorem dX3_isFeast_26 : decode cX3_isFeast 26 = .ok (.aaload, 1) := dz_50 (kBcX3_isFeast_0 26 rfl rfl)
theorem dX3_isFeast_27 : decode cX3_isFeast 27 = .ok (.invokestatic 144, 3) := dz_184 (kBcX3_isFeast_0 27 rfl rfl) (kBcX3_isFeast_0 28 rfl rfl) (kBcX3_isFeast_0 29 rfl rfl) rfl
theorem dX3_isFeast_30 : decode cX3_isFeast 30 = .ok (.ifCond .eq 7, 3) := dz_153 (kBcX3_isFeast_0 30 rfl rfl) (kBcX3_isFeast_0 31 rfl rfl) (kBcX3_isFeast_1 32 rfl rfl) rfl
theorem dX3_isFeast_33 : decode cX3_isFeast 33 = .ok (.iconst 1, 1) := dz_4 (kBcX3_isFeast_1 33 rfl rfl)
theorem dX3_isFeast_34 : decode cX3_isFeast 34 = .ok (.goto 4, 3) := dz_167 (kBcX3_isFeast_1 34 rfl rfl) (kBcX3_isFeast_1 35 rfl rfl) (kBcX3_isFeast_1 36 rfl rfl) rfl
theorem dX3_isFeast_37 : decode cX3_isFeast 37 = .ok (.iconst 0, 1) := dz_3 (kBcX3_isFeast_1 37 rfl rfl)
theorem dX3_isFeast_38 : decode cX3_isFeast 38 = .ok (.ireturn, 1) := dz_172 (kBcX3_isFeast_1 38 rfl rfl)
def kCcX3_dayTold_0 : List Nat := [42, 180, 0, 21, 27, 50, 78, 16, 6, 188, 10, 89, 3, 45, 3, 46, 79, 89, 4, 45, 4, 46, 79, 89, 5, 45, 5, 46, 79, 89, 6, 45]
def kCcX3_dayTold_1 : List Nat := [3, 46, 45, 4, 46, 45, 5, 46, 184, 0, 70, 79, 89, 7, 45, 184, 0, 177, 79, 89, 8, 45, 5, 46, 45, 3, 46, 133, 45, 4, 46, 184]
def kCcX3_dayTold_2 : List Nat := [0, 55, 160, 0, 7, 4, 167, 0, 4, 3, 184, 0, 78, 79, 58, 4, 25, 4, 28, 46, 172]
def kRcX3_dayTold_3 : List Nat := []
def kRcX3_dayTold_2 : List Nat := kCcX3_dayTold_2 ++ kRcX3_dayTold_3
def kRcX3_dayTold_1 : List Nat := kCcX3_dayTold_1 ++ kRcX3_dayTold_2
def kRcX3_dayTold_0 : List Nat := kCcX3_dayTold_0 ++ kRcX3_dayTold_1
theorem kRcX3_dayTold_eq : cX3_dayTold.data.toList.map UInt8.toNat = kRcX3_dayTold_0 := by decide +kernel
theorem katcX3_dayTold_0 (i : Nat) : (cX3_dayTold.data.toList.map UInt8.toNat)[0 + i]? = kRcX3_dayTold_0[i]? := by rw [kRcX3_dayTold_eq, Nat.zero_add]
theorem katcX3_dayTold_1 : ∀ i : Nat, (cX3_dayTold.data.toList.map UInt8.toNat)[32 + i]? = kRcX3_dayTold_1[i]? := kstep katcX3_dayTold_0 (C := kCcX3_dayTold_0) rfl rfl
theorem katcX3_dayTold_2 : ∀ i : Nat, (cX3_dayTold.data.toList.map UInt8.toNat)[64 + i]? = kRcX3_dayTold_2[i]? := kstep katcX3_dayTold_1 (C := kCcX3_dayTold_1) rfl rfl
theorem kBcX3_dayTold_0 {b : Nat} (p : Nat) (hp : Nat.ble 0 p = true) (h : kCcX3_dayTold_0[p - 0]? = some b) : kb cX3_dayTold p b := kin katcX3_dayTold_0 rfl hp h
theorem kBcX3_dayTold_1 {b : Nat} (p : Nat) (hp : Nat.ble 32 p = true) (h : kCcX3_dayTold_1[p - 32]? = some b) : kb cX3_dayTold p b := kin katcX3_dayTold_1 rfl hp h
theorem kBcX3_dayTold_2 {b : Nat} (p : Nat) (hp : Nat.ble 64 p = true) (h : kCcX3_dayTold_2[p - 64]? = some b) : kb cX3_dayTold p b := kin katcX3_dayTold_2 rfl hp h
theorem dX3_dayTold_0 : decode cX3_dayTold 0 = .ok (.aload_n 0, 1) := dz_42 (kBcX3_dayTold_0 0 rfl rfl)
theorem dX3_dayTold_1 : decode cX3_dayTold 1 = .ok (.getfield 21, 3) := dz_180 (kBcX3_dayTold_0 1 rfl rfl) (kBcX3_dayTold_0 2 rfl rfl) (kBcX3_dayTold_0 3 rfl rfl) rfl
theorem dX3_dayTold_4 : decode cX3_dayTold 4 = .ok (.iload_n 1, 1) := dz_27 (kBcX3_dayTold_0 4 rfl rfl)
theorem dX3_dayTold_5 : decode cX3_dayTold 5 = .ok (.aaload, 1) := dz_50 (kBcX3_dayTold_0 5 rfl rfl)
theorem dX3_dayTold_6 : decode cX3_dayTold 6 = .ok (.astore_n 3, 1) := dz_78 (kBcX3_dayTold_0 6 rfl rfl)
theorem dX3_dayTold_7 : decode cX3_dayTold 7 = .ok (.bipush 6, 2) := dz_16 (kBcX3_dayTold_0 7 rfl rfl) (kBcX3_dayTold_0 8 rfl rfl) rfl
theorem dX3_dayTold_9 : decode cX3_dayTold 9 = .ok (.newarray .int, 2) := by decide +kernel
theorem dX3_dayTold_11 : decode cX3_dayTold 11 = .ok (.dup, 1) := dz_89 (kBcX3_dayTold_0 11 rfl rfl)
theorem dX3_dayTold_12 : decode cX3_dayTold 12 = .ok (.iconst 0, 1) := dz_3 (kBcX3_dayTold_0 12 rfl rfl)
theorem dX3_dayTold_13 : decode cX3_dayTold 13 = .ok (.aload_n 3, 1) := dz_45 (kBcX3_dayTold_0 13 rfl rfl)
theorem dX3_dayTold_14 : decode cX3_dayTold 14 = .ok (.iconst 0, 1) := dz_3 (kBcX3_dayTold_0 14 rfl rfl)
theorem dX3_dayTold_15 : decode cX3_dayTold 15 = .ok (.iaload, 1) := dz_46 (kBcX3_dayTold_0 15 rfl rfl)
theorem dX3_dayTold_16 : decode cX3_dayTold 16 = .ok (.iastore, 1) := dz_79 (kBcX3_dayTold_0 16 rfl rfl)
theorem dX3_dayTold_17 : decode cX3_dayTold 17 = .ok (.dup, 1) := dz_89 (kBcX3_dayTold_0 17 rfl rfl)
theorem dX3_dayTold_18 : decode cX3_dayTold 18 = .ok (.iconst 1, 1) := dz_4 (kBcX3_dayTold_0 18 rfl rfl)
theorem dX3_dayTold_19 : decode cX3_dayTold 19 = .ok (.aload_n 3, 1) := dz_45 (kBcX3_dayTold_0 19 rfl rfl)
theorem dX3_dayTold_20 : decode cX3_dayTold 20 = .ok (.iconst 1, 1) := dz_4 (kBcX3_dayTold_0 20 rfl rfl)
theorem dX3_dayTold_21 : decode cX3_dayTold 21 = .ok (.iaload, 1) := dz_46 (kBcX3_dayTold_0 21 rfl rfl)
theorem dX3_dayTold_22 : decode cX3_dayTold 22 = .ok (.iastore, 1) := dz_79 (kBcX3_dayTold_0 22 rfl rfl)
theorem dX3_dayTold_23 : decode cX3_dayTold 23 = .ok (.dup, 1) := dz_89 (kBcX3_dayTold_0 23 rfl rfl)
theorem dX3_dayTold_24 : decode cX3_dayTold 24 = .ok (.iconst 2, 1) := dz_5 (kBcX3_dayTold_0 24 rfl rfl)
theorem dX3_dayTold_25 : decode cX3_dayTold 25 = .ok (.aload_n 3, 1) := dz_45 (kBcX3_dayTold_0 25 rfl rfl)
theorem dX3_dayTold_26 : decode cX3_dayTold 26 = .ok (.iconst 2, 1) := dz_5 (kBcX3_dayTold_0 26 rfl rfl)
theorem dX3_dayTold_27 : decode cX3_dayTold 27 = .ok (.iaload, 1) := dz_46 (kBcX3_dayTold_0 27 rfl rfl)
theorem dX3_dayTold_28 : decode cX3_dayTold 28 = .ok (.iastore, 1) := dz_79 (kBcX3_dayTold_0 28 rfl rfl)
theorem dX3_dayTold_29 : decode cX3_dayTold 29 = .ok (.dup, 1) := dz_89 (kBcX3_dayTold_0 29 rfl rfl)
theorem dX3_dayTold_30 : decode cX3_dayTold 30 = .ok (.iconst 3, 1) := dz_6 (kBcX3_dayTold_0 30 rfl rfl)
theorem dX3_dayTold_31 : decode cX3_dayTold 31 = .ok (.aload_n 3, 1) := dz_45 (kBcX3_dayTold_0 31 rfl rfl)
theorem dX3_dayTold_32 : decode cX3_dayTold 32 = .ok (.iconst 0, 1) := dz_3 (kBcX3_dayTold_1 32 rfl rfl)
theorem dX3_dayTold_33 : decode cX3_dayTold 33 = .ok (.iaload, 1) := dz_46 (kBcX3_dayTold_1 33 rfl rfl)
theorem dX3_dayTold_34 : decode cX3_dayTold 34 = .ok (.aload_n 3, 1) := dz_45 (kBcX3_dayTold_1 34 rfl rfl)
theorem dX3_dayTold_35 : decode cX3_dayTold 35 = .ok (.iconst 1, 1) := dz_4 (kBcX3_dayTold_1 35 rfl rfl)
theorem dX3_dayTold_36 : decode cX3_dayTold 36 = .ok (.iaload, 1) := dz_46 (kBcX3_dayTold_1 36 rfl rfl)
theorem dX3_dayTold_37 : decode cX3_dayTold 37 = .ok (.aload_n 3, 1) := dz_45 (kBcX3_dayTold_1 37 rfl rfl)
theorem dX3_dayTold_38 : decode cX3_dayTold 38 = .ok (.iconst 2, 1) := dz_5 (kBcX3_dayTold_1 38 rfl rfl)
theorem dX3_dayTold_39 : decode cX3_dayTold 39 = .ok (.iaload, 1) := dz_46 (kBcX3_dayTold_1 39 rfl rfl)
theorem dX3_dayTold_40 : decode cX3_dayTold 40 = .ok (.invokestatic 70, 3) := dz_184 (kBcX3_dayTold_1 40 rfl rfl) (kBcX3_dayTold_1 41 rfl rfl) (kBcX3_dayTold_1 42 rfl rfl) rfl
theorem dX3_dayTold_43 : decode cX3_dayTold 43 = .ok (.iastore, 1) := dz_79 (kBcX3_dayTold_1 43 rfl rfl)
theorem dX3_dayTold_44 : decode cX3_dayTold 44 = .ok (.dup, 1) := dz_89 (kBcX3_dayTold_1 44 rfl rfl)
theorem dX3_dayTold_45 : decode cX3_dayTold 45 = .ok (.iconst 4, 1) := dz_7 (kBcX3_dayTold_1 45 rfl rfl)
theorem dX3_dayTold_46 : decode cX3_dayTold 46 = .ok (.aload_n 3, 1) := dz_45 (kBcX3_dayTold_1 46 rfl rfl)
theorem dX3_dayTold_47 : decode cX3_dayTold 47 = .ok (.invokestatic 177, 3) := dz_184 (kBcX3_dayTold_1 47 rfl rfl) (kBcX3_dayTold_1 48 rfl rfl) (kBcX3_dayTold_1 49 rfl rfl) rfl
theorem dX3_dayTold_50 : decode cX3_dayTold 50 = .ok (.iastore, 1) := dz_79 (kBcX3_dayTold_1 50 rfl rfl)
theorem dX3_dayTold_51 : decode cX3_dayTold 51 = .ok (.dup, 1) := dz_89 (kBcX3_dayTold_1 51 rfl rfl)
theorem dX3_dayTold_52 : decode cX3_dayTold 52 = .ok (.iconst 5, 1) := dz_8 (kBcX3_dayTold_1 52 rfl rfl)
theorem dX3_dayTold_53 : decode cX3_dayTold 53 = .ok (.aload_n 3, 1) := dz_45 (kBcX3_dayTold_1 53 rfl rfl)
theorem dX3_dayTold_54 : decode cX3_dayTold 54 = .ok (.iconst 2, 1) := dz_5 (kBcX3_dayTold_1 54 rfl rfl)
theorem dX3_dayTold_55 : decode cX3_dayTold 55 = .ok (.iaload, 1) := dz_46 (kBcX3_dayTold_1 55 rfl rfl)
theorem dX3_dayTold_56 : decode cX3_dayTold 56 = .ok (.aload_n 3, 1) := dz_45 (kBcX3_dayTold_1 56 rfl rfl)
theorem dX3_dayTold_57 : decode cX3_dayTold 57 = .ok (.iconst 0, 1) := dz_3 (kBcX3_dayTold_1 57 rfl rfl)
theorem dX3_dayTold_58 : decode cX3_dayTold 58 = .ok (.iaload, 1) := dz_46 (kBcX3_dayTold_1 58 rfl rfl)
theorem dX3_dayTold_59 : decode cX3_dayTold 59 = .ok (.i2l, 1) := dz_133 (kBcX3_dayTold_1 59 rfl rfl)
theorem dX3_dayTold_60 : decode cX3_dayTold 60 = .ok (.aload_n 3, 1) := dz_45 (kBcX3_dayTold_1 60 rfl rfl)
theorem dX3_dayTold_61 : decode cX3_dayTold 61 = .ok (.iconst 1, 1) := dz_4 (kBcX3_dayTold_1 61 rfl rfl)
theorem dX3_dayTold_62 : decode cX3_dayTold 62 = .ok (.iaload, 1) := dz_46 (kBcX3_dayTold_1 62 rfl rfl)
theorem dX3_dayTold_63 : decode cX3_dayTold 63 = .ok (.invokestatic 55, 3) := dz_184 (kBcX3_dayTold_1 63 rfl rfl) (kBcX3_dayTold_2 64 rfl rfl) (kBcX3_dayTold_2 65 rfl rfl) rfl
theorem dX3_dayTold_66 : decode cX3_dayTold 66 = .ok (.if_icmp .ne 7, 3) := dz_160 (kBcX3_dayTold_2 66 rfl rfl) (kBcX3_dayTold_2 67 rfl rfl) (kBcX3_dayTold_2 68 rfl rfl) rfl
theorem dX3_dayTold_69 : decode cX3_dayTold 69 = .ok (.iconst 1, 1) := dz_4 (kBcX3_dayTold_2 69 rfl rfl)
theorem dX3_dayTold_70 : decode cX3_dayTold 70 = .ok (.goto 4, 3) := dz_167 (kBcX3_dayTold_2 70 rfl rfl) (kBcX3_dayTold_2 71 rfl rfl) (kBcX3_dayTold_2 72 rfl rfl) rfl
theorem dX3_dayTold_73 : decode cX3_dayTold 73 = .ok (.iconst 0, 1) := dz_3 (kBcX3_dayTold_2 73 rfl rfl)
theorem dX3_dayTold_74 : decode cX3_dayTold 74 = .ok (.invokestatic 78, 3) := dz_184 (kBcX3_dayTold_2 74 rfl rfl) (kBcX3_dayTold_2 75 rfl rfl) (kBcX3_dayTold_2 76 rfl rfl) rfl
theorem dX3_dayTold_77 : decode cX3_dayTold 77 = .ok (.iastore, 1) := dz_79 (kBcX3_dayTold_2 77 rfl rfl)
theorem dX3_dayTold_78 : decode cX3_dayTold 78 = .ok (.astore 4, 2) := dz_58 (kBcX3_dayTold_2 78 rfl rfl) (kBcX3_dayTold_2 79 rfl rfl)
theorem dX3_dayTold_80 : decode cX3_dayTold 80 = .ok (.aload 4, 2) := dz_25 (kBcX3_dayTold_2 80 rfl rfl) (kBcX3_dayTold_2 81 rfl rfl)
theorem dX3_dayTold_82 : decode cX3_dayTold 82 = .ok (.iload_n 2, 1) := dz_28 (kBcX3_dayTold_2 82 rfl rfl)
theorem dX3_dayTold_83 : decode cX3_dayTold 83 = .ok (.iaload, 1) := dz_46 (kBcX3_dayTold_2 83 rfl rfl)
theorem dX3_dayTold_84 : decode cX3_dayTold 84 = .ok (.ireturn, 1) := dz_172 (kBcX3_dayTold_2 84 rfl rfl)
def kCcX3_ofDay_0 : List Nat := [42, 27, 184, 0, 96, 28, 133, 9, 20, 0, 228, 184, 0, 30, 154, 0, 7, 4, 167, 0, 4, 3, 182, 0, 103, 153, 0, 7, 3, 167, 0, 9]
def kCcX3_ofDay_1 : List Nat := [42, 27, 28, 182, 0, 230, 172]
def kRcX3_ofDay_2 : List Nat := []
def kRcX3_ofDay_1 : List Nat := kCcX3_ofDay_1 ++ kRcX3_ofDay_2
def kRcX3_ofDay_0 : List Nat := kCcX3_ofDay_0 ++ kRcX3_ofDay_1
theorem kRcX3_ofDay_eq : cX3_ofDay.data.toList.map UInt8.toNat = kRcX3_ofDay_0 := by decide +kernel
theorem katcX3_ofDay_0 (i : Nat) : (cX3_ofDay.data.toList.map UInt8.toNat)[0 + i]? = kRcX3_ofDay_0[i]? := by rw [kRcX3_ofDay_eq, Nat.zero_add]
theorem katcX3_ofDay_1 : ∀ i : Nat, (cX3_ofDay.data.toList.map UInt8.toNat)[32 + i]? = kRcX3_ofDay_1[i]? := kstep katcX3_ofDay_0 (C := kCcX3_ofDay_0) rfl rfl
theorem kBcX3_ofDay_0 {b : Nat} (p : Nat) (hp : Nat.ble 0 p = true) (h : kCcX3_ofDay_0[p - 0]? = some b) : kb cX3_ofDay p b := kin katcX3_ofDay_0 rfl hp h
theorem kBcX3_ofDay_1 {b : Nat} (p : Nat) (hp : Nat.ble 32 p = true) (h : kCcX3_ofDay_1[p - 32]? = some b) : kb cX3_ofDay p b := kin katcX3_ofDay_1 rfl hp h
theorem dX3_ofDay_0 : decode cX3_ofDay 0 = .ok (.aload_n 0, 1) := dz_42 (kBcX3_ofDay_0 0 rfl rfl)
theorem dX3_ofDay_1 : decode cX3_ofDay 1 = .ok (.iload_n 1, 1) := dz_27 (kBcX3_ofDay_0 1 rfl rfl)
theorem dX3_ofDay_2 : decode cX3_ofDay 2 = .ok (.invokestatic 96, 3) := dz_184 (kBcX3_ofDay_0 2 rfl rfl) (kBcX3_ofDay_0 3 rfl rfl) (kBcX3_ofDay_0 4 rfl rfl) rfl
theorem dX3_ofDay_5 : decode cX3_ofDay 5 = .ok (.iload_n 2, 1) := dz_28 (kBcX3_ofDay_0 5 rfl rfl)
theorem dX3_ofDay_6 : decode cX3_ofDay 6 = .ok (.i2l, 1) := dz_133 (kBcX3_ofDay_0 6 rfl rfl)
theorem dX3_ofDay_7 : decode cX3_ofDay 7 = .ok (.lconst 0, 1) := dz_9 (kBcX3_ofDay_0 7 rfl rfl)
theorem dX3_ofDay_8 : decode cX3_ofDay 8 = .ok (.ldc2_w 228, 3) := dz_20 (kBcX3_ofDay_0 8 rfl rfl) (kBcX3_ofDay_0 9 rfl rfl) (kBcX3_ofDay_0 10 rfl rfl) rfl
theorem dX3_ofDay_11 : decode cX3_ofDay 11 = .ok (.invokestatic 30, 3) := dz_184 (kBcX3_ofDay_0 11 rfl rfl) (kBcX3_ofDay_0 12 rfl rfl) (kBcX3_ofDay_0 13 rfl rfl) rfl
theorem dX3_ofDay_14 : decode cX3_ofDay 14 = .ok (.ifCond .ne 7, 3) := dz_154 (kBcX3_ofDay_0 14 rfl rfl) (kBcX3_ofDay_0 15 rfl rfl) (kBcX3_ofDay_0 16 rfl rfl) rfl
theorem dX3_ofDay_17 : decode cX3_ofDay 17 = .ok (.iconst 1, 1) := dz_4 (kBcX3_ofDay_0 17 rfl rfl)
theorem dX3_ofDay_18 : decode cX3_ofDay 18 = .ok (.goto 4, 3) := dz_167 (kBcX3_ofDay_0 18 rfl rfl) (kBcX3_ofDay_0 19 rfl rfl) (kBcX3_ofDay_0 20 rfl rfl) rfl
theorem dX3_ofDay_21 : decode cX3_ofDay 21 = .ok (.iconst 0, 1) := dz_3 (kBcX3_ofDay_0 21 rfl rfl)
theorem dX3_ofDay_22 : decode cX3_ofDay 22 = .ok (.invokevirtual 103, 3) := dz_182 (kBcX3_ofDay_0 22 rfl rfl) (kBcX3_ofDay_0 23 rfl rfl) (kBcX3_ofDay_0 24 rfl rfl) rfl
theorem dX3_ofDay_25 : decode cX3_ofDay 25 = .ok (.ifCond .eq 7, 3) := dz_153 (kBcX3_ofDay_0 25 rfl rfl) (kBcX3_ofDay_0 26 rfl rfl) (kBcX3_ofDay_0 27 rfl rfl) rfl
theorem dX3_ofDay_28 : decode cX3_ofDay 28 = .ok (.iconst 0, 1) := dz_3 (kBcX3_ofDay_0 28 rfl rfl)
theorem dX3_ofDay_29 : decode cX3_ofDay 29 = .ok (.goto 9, 3) := dz_167 (kBcX3_ofDay_0 29 rfl rfl) (kBcX3_ofDay_0 30 rfl rfl) (kBcX3_ofDay_0 31 rfl rfl) rfl
theorem dX3_ofDay_32 : decode cX3_ofDay 32 = .ok (.aload_n 0, 1) := dz_42 (kBcX3_ofDay_1 32 rfl rfl)
theorem dX3_ofDay_33 : decode cX3_ofDay 33 = .ok (.iload_n 1, 1) := dz_27 (kBcX3_ofDay_1 33 rfl rfl)
theorem dX3_ofDay_34 : decode cX3_ofDay 34 = .ok (.iload_n 2, 1) := dz_28 (kBcX3_ofDay_1 34 rfl rfl)
theorem dX3_ofDay_35 : decode cX3_ofDay 35 = .ok (.invokevirtual 230, 3) := dz_182 (kBcX3_ofDay_1 35 rfl rfl) (kBcX3_ofDay_1 36 rfl rfl) (kBcX3_ofDay_1 37 rfl rfl) rfl
theorem dX3_ofDay_38 : decode cX3_ofDay 38 = .ok (.ireturn, 1) := dz_172 (kBcX3_ofDay_1 38 rfl rfl)
def kCcX3_number_0 : List Nat := [42, 27, 184, 0, 96, 3, 182, 0, 103, 153, 0, 8, 18, 192, 167, 0, 30, 187, 0, 194, 89, 183, 0, 196, 18, 192, 182, 0, 197, 42, 180, 0]
def kCcX3_number_1 : List Nat := [21, 27, 50, 184, 0, 74, 182, 0, 201, 182, 0, 204, 176]
def kRcX3_number_2 : List Nat := []
def kRcX3_number_1 : List Nat := kCcX3_number_1 ++ kRcX3_number_2
def kRcX3_number_0 : List Nat := kCcX3_number_0 ++ kRcX3_number_1
theorem kRcX3_number_eq : cX3_number.data.toList.map UInt8.toNat = kRcX3_number_0 := by decide +kernel
theorem katcX3_number_0 (i : Nat) : (cX3_number.data.toList.map UInt8.toNat)[0 + i]? = kRcX3_number_0[i]? := by rw [kRcX3_number_eq, Nat.zero_add]
theorem katcX3_number_1 : ∀ i : Nat, (cX3_number.data.toList.map UInt8.toNat)[32 + i]? = kRcX3_number_1[i]? := kstep katcX3_number_0 (C := kCcX3_number_0) rfl rfl
theorem kBcX3_number_0 {b : Nat} (p : Nat) (hp : Nat.ble 0 p = true) (h : kCcX3_number_0[p - 0]? = some b) : kb cX3_number p b := kin katcX3_number_0 rfl hp h
theorem kBcX3_number_1 {b : Nat} (p : Nat) (hp : Nat.ble 32 p = true) (h : kCcX3_number_1[p - 32]? = some b) : kb cX3_number p b := kin katcX3_number_1 rfl hp h
theorem dX3_number_0 : decode cX3_number 0 = .ok (.aload_n 0, 1) := dz_42 (kBcX3_number_0 0 rfl rfl)
theorem dX3_number_1 : decode cX3_number 1 = .ok (.iload_n 1, 1) := dz_27 (kBcX3_number_0 1 rfl rfl)
theorem dX3_number_2 : decode cX3_number 2 = .ok (.invokestatic 96, 3) := dz_184 (kBcX3_number_0 2 rfl rfl) (kBcX3_number_0 3 rfl rfl) (kBcX3_number_0 4 rfl rfl) rfl
theorem dX3_number_5 : decode cX3_number 5 = .ok (.iconst 0, 1) := dz_3 (kBcX3_number_0 5 rfl rfl)
theorem dX3_number_6 : decode cX3_number 6 = .ok (.invokevirtual 103, 3) := dz_182 (kBcX3_number_0 6 rfl rfl) (kBcX3_number_0 7 rfl rfl) (kBcX3_number_0 8 rfl rfl) rfl
theorem dX3_number_9 : decode cX3_number 9 = .ok (.ifCond .eq 8, 3) := dz_153 (kBcX3_number_0 9 rfl rfl) (kBcX3_number_0 10 rfl rfl) (kBcX3_number_0 11 rfl rfl) rfl
theorem dX3_number_12 : decode cX3_number 12 = .ok (.ldc 192, 2) := dz_18 (kBcX3_number_0 12 rfl rfl) (kBcX3_number_0 13 rfl rfl)
theorem dX3_number_14 : decode cX3_number 14 = .ok (.goto 30, 3) := dz_167 (kBcX3_number_0 14 rfl rfl) (kBcX3_number_0 15 rfl rfl) (kBcX3_number_0 16 rfl rfl) rfl
theorem dX3_number_17 : decode cX3_number 17 = .ok (.new 194, 3) := dz_187 (kBcX3_number_0 17 rfl rfl) (kBcX3_number_0 18 rfl rfl) (kBcX3_number_0 19 rfl rfl) rfl
theorem dX3_number_20 : decode cX3_number 20 = .ok (.dup, 1) := dz_89 (kBcX3_number_0 20 rfl rfl)
theorem dX3_number_21 : decode cX3_number 21 = .ok (.invokespecial 196, 3) := dz_183 (kBcX3_number_0 21 rfl rfl) (kBcX3_number_0 22 rfl rfl) (kBcX3_number_0 23 rfl rfl) rfl
theorem dX3_number_24 : decode cX3_number 24 = .ok (.ldc 192, 2) := dz_18 (kBcX3_number_0 24 rfl rfl) (kBcX3_number_0 25 rfl rfl)
theorem dX3_number_26 : decode cX3_number 26 = .ok (.invokevirtual 197, 3) := dz_182 (kBcX3_number_0 26 rfl rfl) (kBcX3_number_0 27 rfl rfl) (kBcX3_number_0 28 rfl rfl) rfl
theorem dX3_number_29 : decode cX3_number 29 = .ok (.aload_n 0, 1) := dz_42 (kBcX3_number_0 29 rfl rfl)
theorem dX3_number_30 : decode cX3_number 30 = .ok (.getfield 21, 3) := dz_180 (kBcX3_number_0 30 rfl rfl) (kBcX3_number_0 31 rfl rfl) (kBcX3_number_1 32 rfl rfl) rfl
theorem dX3_number_33 : decode cX3_number 33 = .ok (.iload_n 1, 1) := dz_27 (kBcX3_number_1 33 rfl rfl)
theorem dX3_number_34 : decode cX3_number 34 = .ok (.aaload, 1) := dz_50 (kBcX3_number_1 34 rfl rfl)
theorem dX3_number_35 : decode cX3_number 35 = .ok (.invokestatic 74, 3) := dz_184 (kBcX3_number_1 35 rfl rfl) (kBcX3_number_1 36 rfl rfl) (kBcX3_number_1 37 rfl rfl) rfl
theorem dX3_number_38 : decode cX3_number 38 = .ok (.invokevirtual 201, 3) := dz_182 (kBcX3_number_1 38 rfl rfl) (kBcX3_number_1 39 rfl rfl) (kBcX3_number_1 40 rfl rfl) rfl
theorem dX3_number_41 : decode cX3_number 41 = .ok (.invokevirtual 204, 3) := dz_182 (kBcX3_number_1 41 rfl rfl) (kBcX3_number_1 42 rfl rfl) (kBcX3_number_1 43 rfl rfl) rfl
theorem dX3_number_44 : decode cX3_number 44 = .ok (.areturn, 1) := dz_176 (kBcX3_number_1 44 rfl rfl)
def kCcX3_dayOrder_0 : List Nat := [42, 27, 184, 0, 96, 154, 0, 10, 28, 184, 0, 96, 153, 0, 7, 4, 167, 0, 4, 3, 29, 184, 0, 208, 182, 0, 103, 153, 0, 7, 3, 167]
def kCcX3_dayOrder_1 : List Nat := [0, 25, 42, 180, 0, 21, 27, 50, 184, 0, 74, 42, 180, 0, 21, 28, 50, 184, 0, 74, 29, 184, 0, 211, 172]
def kRcX3_dayOrder_2 : List Nat := []
def kRcX3_dayOrder_1 : List Nat := kCcX3_dayOrder_1 ++ kRcX3_dayOrder_2
def kRcX3_dayOrder_0 : List Nat := kCcX3_dayOrder_0 ++ kRcX3_dayOrder_1
theorem kRcX3_dayOrder_eq : cX3_dayOrder.data.toList.map UInt8.toNat = kRcX3_dayOrder_0 := by decide +kernel
theorem katcX3_dayOrder_0 (i : Nat) : (cX3_dayOrder.data.toList.map UInt8.toNat)[0 + i]? = kRcX3_dayOrder_0[i]? := by rw [kRcX3_dayOrder_eq, Nat.zero_add]
theorem katcX3_dayOrder_1 : ∀ i : Nat, (cX3_dayOrder.data.toList.map UInt8.toNat)[32 + i]? = kRcX3_dayOrder_1[i]? := kstep katcX3_dayOrder_0 (C := kCcX3_dayOrder_0) rfl rfl
theorem kBcX3_dayOrder_0 {b : Nat} (p : Nat) (hp : Nat.ble 0 p = true) (h : kCcX3_dayOrder_0[p - 0]? = some b) : kb cX3_dayOrder p b := kin katcX3_dayOrder_0 rfl hp h
theorem kBcX3_dayOrder_1 {b : Nat} (p : Nat) (hp : Nat.ble 32 p = true) (h : kCcX3_dayOrder_1[p - 32]? = some b) : kb cX3_dayOrder p b := kin katcX3_dayOrder_1 rfl hp h
theorem dX3_dayOrder_0 : decode cX3_dayOrder 0 = .ok (.aload_n 0, 1) := dz_42 (kBcX3_dayOrder_0 0 rfl rfl)
theorem dX3_dayOrder_1 : decode cX3_dayOrder 1 = .ok (.iload_n 1, 1) := dz_27 (kBcX3_dayOrder_0 1 rfl rfl)
theorem dX3_dayOrder_2 : decode cX3_dayOrder 2 = .ok (.invokestatic 96, 3) := dz_184 (kBcX3_dayOrder_0 2 rfl rfl) (kBcX3_dayOrder_0 3 rfl rfl) (kBcX3_dayOrder_0 4 rfl rfl) rfl
theorem dX3_dayOrder_5 : decode cX3_dayOrder 5 = .ok (.ifCond .ne 10, 3) := dz_154 (kBcX3_dayOrder_0 5 rfl rfl) (kBcX3_dayOrder_0 6 rfl rfl) (kBcX3_dayOrder_0 7 rfl rfl) rfl
theorem dX3_dayOrder_8 : decode cX3_dayOrder 8 = .ok (.iload_n 2, 1) := dz_28 (kBcX3_dayOrder_0 8 rfl rfl)
theorem dX3_dayOrder_9 : decode cX3_dayOrder 9 = .ok (.invokestatic 96, 3) := dz_184 (kBcX3_dayOrder_0 9 rfl rfl) (kBcX3_dayOrder_0 10 rfl rfl) (kBcX3_dayOrder_0 11 rfl rfl) rfl
theorem dX3_dayOrder_12 : decode cX3_dayOrder 12 = .ok (.ifCond .eq 7, 3) := dz_153 (kBcX3_dayOrder_0 12 rfl rfl) (kBcX3_dayOrder_0 13 rfl rfl) (kBcX3_dayOrder_0 14 rfl rfl) rfl
theorem dX3_dayOrder_15 : decode cX3_dayOrder 15 = .ok (.iconst 1, 1) := dz_4 (kBcX3_dayOrder_0 15 rfl rfl)
theorem dX3_dayOrder_16 : decode cX3_dayOrder 16 = .ok (.goto 4, 3) := dz_167 (kBcX3_dayOrder_0 16 rfl rfl) (kBcX3_dayOrder_0 17 rfl rfl) (kBcX3_dayOrder_0 18 rfl rfl) rfl
theorem dX3_dayOrder_19 : decode cX3_dayOrder 19 = .ok (.iconst 0, 1) := dz_3 (kBcX3_dayOrder_0 19 rfl rfl)
theorem dX3_dayOrder_20 : decode cX3_dayOrder 20 = .ok (.iload_n 3, 1) := dz_29 (kBcX3_dayOrder_0 20 rfl rfl)
theorem dX3_dayOrder_21 : decode cX3_dayOrder 21 = .ok (.invokestatic 208, 3) := dz_184 (kBcX3_dayOrder_0 21 rfl rfl) (kBcX3_dayOrder_0 22 rfl rfl) (kBcX3_dayOrder_0 23 rfl rfl) rfl
theorem dX3_dayOrder_24 : decode cX3_dayOrder 24 = .ok (.invokevirtual 103, 3) := dz_182 (kBcX3_dayOrder_0 24 rfl rfl) (kBcX3_dayOrder_0 25 rfl rfl) (kBcX3_dayOrder_0 26 rfl rfl) rfl
theorem dX3_dayOrder_27 : decode cX3_dayOrder 27 = .ok (.ifCond .eq 7, 3) := dz_153 (kBcX3_dayOrder_0 27 rfl rfl) (kBcX3_dayOrder_0 28 rfl rfl) (kBcX3_dayOrder_0 29 rfl rfl) rfl
theorem dX3_dayOrder_30 : decode cX3_dayOrder 30 = .ok (.iconst 0, 1) := dz_3 (kBcX3_dayOrder_0 30 rfl rfl)
theorem dX3_dayOrder_31 : decode cX3_dayOrder 31 = .ok (.goto 25, 3) := dz_167 (kBcX3_dayOrder_0 31 rfl rfl) (kBcX3_dayOrder_1 32 rfl rfl) (kBcX3_dayOrder_1 33 rfl rfl) rfl
theorem dX3_dayOrder_34 : decode cX3_dayOrder 34 = .ok (.aload_n 0, 1) := dz_42 (kBcX3_dayOrder_1 34 rfl rfl)
theorem dX3_dayOrder_35 : decode cX3_dayOrder 35 = .ok (.getfield 21, 3) := dz_180 (kBcX3_dayOrder_1 35 rfl rfl) (kBcX3_dayOrder_1 36 rfl rfl) (kBcX3_dayOrder_1 37 rfl rfl) rfl
theorem dX3_dayOrder_38 : decode cX3_dayOrder 38 = .ok (.iload_n 1, 1) := dz_27 (kBcX3_dayOrder_1 38 rfl rfl)
theorem dX3_dayOrder_39 : decode cX3_dayOrder 39 = .ok (.aaload, 1) := dz_50 (kBcX3_dayOrder_1 39 rfl rfl)
theorem dX3_dayOrder_40 : decode cX3_dayOrder 40 = .ok (.invokestatic 74, 3) := dz_184 (kBcX3_dayOrder_1 40 rfl rfl) (kBcX3_dayOrder_1 41 rfl rfl) (kBcX3_dayOrder_1 42 rfl rfl) rfl
theorem dX3_dayOrder_43 : decode cX3_dayOrder 43 = .ok (.aload_n 0, 1) := dz_42 (kBcX3_dayOrder_1 43 rfl rfl)
theorem dX3_dayOrder_44 : decode cX3_dayOrder 44 = .ok (.getfield 21, 3) := dz_180 (kBcX3_dayOrder_1 44 rfl rfl) (kBcX3_dayOrder_1 45 rfl rfl) (kBcX3_dayOrder_1 46 rfl rfl) rfl
theorem dX3_dayOrder_47 : decode cX3_dayOrder 47 = .ok (.iload_n 2, 1) := dz_28 (kBcX3_dayOrder_1 47 rfl rfl)
theorem dX3_dayOrder_48 : decode cX3_dayOrder 48 = .ok (.aaload, 1) := dz_50 (kBcX3_dayOrder_1 48 rfl rfl)
theorem dX3_dayOrder_49 : decode cX3_dayOrder 49 = .ok (.invokestatic 74, 3) := dz_184 (kBcX3_dayOrder_1 49 rfl rfl) (kBcX3_dayOrder_1 50 rfl rfl) (kBcX3_dayOrder_1 51 rfl rfl) rfl
theorem dX3_dayOrder_52 : decode cX3_dayOrder 52 = .ok (.iload_n 3, 1) := dz_29 (kBcX3_dayOrder_1 52 rfl rfl)
theorem dX3_dayOrder_53 : decode cX3_dayOrder 53 = .ok (.invokestatic 211, 3) := dz_184 (kBcX3_dayOrder_1 53 rfl rfl) (kBcX3_dayOrder_1 54 rfl rfl) (kBcX3_dayOrder_1 55 rfl rfl) rfl
theorem dX3_dayOrder_56 : decode cX3_dayOrder 56 = .ok (.ireturn, 1) := dz_172 (kBcX3_dayOrder_1 56 rfl rfl)
def kCcX3_knows_0 : List Nat := [42, 27, 133, 9, 20, 0, 155, 184, 0, 30, 153, 0, 15, 28, 133, 9, 20, 0, 38, 184, 0, 30, 154, 0, 7, 4, 167, 0, 4, 3, 3, 182]
def kCcX3_knows_1 : List Nat := [0, 103, 153, 0, 5, 3, 172, 27, 5, 160, 0, 14, 28, 5, 162, 0, 7, 4, 167, 0, 4, 3, 172, 27, 154, 0, 21, 28, 153, 0, 13, 28]
def kCcX3_knows_2 : List Nat := [16, 6, 159, 0, 7, 4, 167, 0, 32, 3, 167, 0, 28, 28, 133, 20, 0, 28, 20, 0, 228, 184, 0, 30, 154, 0, 9, 28, 16, 7, 164, 0]
def kCcX3_knows_3 : List Nat := [7, 4, 167, 0, 4, 3, 172]
def kRcX3_knows_4 : List Nat := []
def kRcX3_knows_3 : List Nat := kCcX3_knows_3 ++ kRcX3_knows_4
def kRcX3_knows_2 : List Nat := kCcX3_knows_2 ++ kRcX3_knows_3
def kRcX3_knows_1 : List Nat := kCcX3_knows_1 ++ kRcX3_knows_2
def kRcX3_knows_0 : List Nat := kCcX3_knows_0 ++ kRcX3_knows_1
theorem kRcX3_knows_eq : cX3_knows.data.toList.map UInt8.toNat = kRcX3_knows_0 := by decide +kernel
theorem katcX3_knows_0 (i : Nat) : (cX3_knows.data.toList.map UInt8.toNat)[0 + i]? = kRcX3_knows_0[i]? := by rw [kRcX3_knows_eq, Nat.zero_add]
theorem katcX3_knows_1 : ∀ i : Nat, (cX3_knows.data.toList.map UInt8.toNat)[32 + i]? = kRcX3_knows_1[i]? := kstep katcX3_knows_0 (C := kCcX3_knows_0) rfl rfl
theorem katcX3_knows_2 : ∀ i : Nat, (cX3_knows.data.toList.map UInt8.toNat)[64 + i]? = kRcX3_knows_2[i]? := kstep katcX3_knows_1 (C := kCcX3_knows_1) rfl rfl
theorem katcX3_knows_3 : ∀ i : Nat, (cX3_knows.data.toList.map UInt8.toNat)[96 + i]? = kRcX3_knows_3[i]? := kstep katcX3_knows_2 (C := kCcX3_knows_2) rfl rfl
theorem kBcX3_knows_0 {b : Nat} (p : Nat) (hp : Nat.ble 0 p = true) (h : kCcX3_knows_0[p - 0]? = some b) : kb cX3_knows p b := kin katcX3_knows_0 rfl hp h
theorem kBcX3_knows_1 {b : Nat} (p : Nat) (hp : Nat.ble 32 p = true) (h : kCcX3_knows_1[p - 32]? = some b) : kb cX3_knows p b := kin katcX3_knows_1 rfl hp h
theorem kBcX3_knows_2 {b : Nat} (p : Nat) (hp : Nat.ble 64 p = true) (h : kCcX3_knows_2[p - 64]? = some b) : kb cX3_knows p b := kin katcX3_knows_2 rfl hp h
theorem kBcX3_knows_3 {b : Nat} (p : Nat) (hp : Nat.ble 96 p = true) (h : kCcX3_knows_3[p - 96]? = some b) : kb cX3_knows p b := kin katcX3_knows_3 rfl hp h
theorem dX3_knows_0 : decode cX3_knows 0 = .ok (.aload_n 0, 1) := dz_42 (kBcX3_knows_0 0 rfl rfl)
theorem dX3_knows_1 : decode cX3_knows 1 = .ok (.iload_n 1, 1) := dz_27 (kBcX3_knows_0 1 rfl rfl)
theorem dX3_knows_2 : decode cX3_knows 2 = .ok (.i2l, 1) := dz_133 (kBcX3_knows_0 2 rfl rfl)
theorem dX3_knows_3 : decode cX3_knows 3 = .ok (.lconst 0, 1) := dz_9 (kBcX3_knows_0 3 rfl rfl)
theorem dX3_knows_4 : decode cX3_knows 4 = .ok (.ldc2_w 155, 3) := dz_20 (kBcX3_knows_0 4 rfl rfl) (kBcX3_knows_0 5 rfl rfl) (kBcX3_knows_0 6 rfl rfl) rfl
theorem dX3_knows_7 : decode cX3_knows 7 = .ok (.invokestatic 30, 3) := dz_184 (kBcX3_knows_0 7 rfl rfl) (kBcX3_knows_0 8 rfl rfl) (kBcX3_knows_0 9 rfl rfl) rfl
theorem dX3_knows_10 : decode cX3_knows 10 = .ok (.ifCond .eq 15, 3) := dz_153 (kBcX3_knows_0 10 rfl rfl) (kBcX3_knows_0 11 rfl rfl) (kBcX3_knows_0 12 rfl rfl) rfl
theorem dX3_knows_13 : decode cX3_knows 13 = .ok (.iload_n 2, 1) := dz_28 (kBcX3_knows_0 13 rfl rfl)
theorem dX3_knows_14 : decode cX3_knows 14 = .ok (.i2l, 1) := dz_133 (kBcX3_knows_0 14 rfl rfl)
theorem dX3_knows_15 : decode cX3_knows 15 = .ok (.lconst 0, 1) := dz_9 (kBcX3_knows_0 15 rfl rfl)
theorem dX3_knows_16 : decode cX3_knows 16 = .ok (.ldc2_w 38, 3) := dz_20 (kBcX3_knows_0 16 rfl rfl) (kBcX3_knows_0 17 rfl rfl) (kBcX3_knows_0 18 rfl rfl) rfl
theorem dX3_knows_19 : decode cX3_knows 19 = .ok (.invokestatic 30, 3) := dz_184 (kBcX3_knows_0 19 rfl rfl) (kBcX3_knows_0 20 rfl rfl) (kBcX3_knows_0 21 rfl rfl) rfl
theorem dX3_knows_22 : decode cX3_knows 22 = .ok (.ifCond .ne 7, 3) := dz_154 (kBcX3_knows_0 22 rfl rfl) (kBcX3_knows_0 23 rfl rfl) (kBcX3_knows_0 24 rfl rfl) rfl
theorem dX3_knows_25 : decode cX3_knows 25 = .ok (.iconst 1, 1) := dz_4 (kBcX3_knows_0 25 rfl rfl)
theorem dX3_knows_26 : decode cX3_knows 26 = .ok (.goto 4, 3) := dz_167 (kBcX3_knows_0 26 rfl rfl) (kBcX3_knows_0 27 rfl rfl) (kBcX3_knows_0 28 rfl rfl) rfl
theorem dX3_knows_29 : decode cX3_knows 29 = .ok (.iconst 0, 1) := dz_3 (kBcX3_knows_0 29 rfl rfl)
theorem dX3_knows_30 : decode cX3_knows 30 = .ok (.iconst 0, 1) := dz_3 (kBcX3_knows_0 30 rfl rfl)
theorem dX3_knows_31 : decode cX3_knows 31 = .ok (.invokevirtual 103, 3) := dz_182 (kBcX3_knows_0 31 rfl rfl) (kBcX3_knows_1 32 rfl rfl) (kBcX3_knows_1 33 rfl rfl) rfl
theorem dX3_knows_34 : decode cX3_knows 34 = .ok (.ifCond .eq 5, 3) := dz_153 (kBcX3_knows_1 34 rfl rfl) (kBcX3_knows_1 35 rfl rfl) (kBcX3_knows_1 36 rfl rfl) rfl
theorem dX3_knows_37 : decode cX3_knows 37 = .ok (.iconst 0, 1) := dz_3 (kBcX3_knows_1 37 rfl rfl)
theorem dX3_knows_38 : decode cX3_knows 38 = .ok (.ireturn, 1) := dz_172 (kBcX3_knows_1 38 rfl rfl)
theorem dX3_knows_39 : decode cX3_knows 39 = .ok (.iload_n 1, 1) := dz_27 (kBcX3_knows_1 39 rfl rfl)
theorem dX3_knows_40 : decode cX3_knows 40 = .ok (.iconst 2, 1) := dz_5 (kBcX3_knows_1 40 rfl rfl)
theorem dX3_knows_41 : decode cX3_knows 41 = .ok (.if_icmp .ne 14, 3) := dz_160 (kBcX3_knows_1 41 rfl rfl) (kBcX3_knows_1 42 rfl rfl) (kBcX3_knows_1 43 rfl rfl) rfl
theorem dX3_knows_44 : decode cX3_knows 44 = .ok (.iload_n 2, 1) := dz_28 (kBcX3_knows_1 44 rfl rfl)
theorem dX3_knows_45 : decode cX3_knows 45 = .ok (.iconst 2, 1) := dz_5 (kBcX3_knows_1 45 rfl rfl)
theorem dX3_knows_46 : decode cX3_knows 46 = .ok (.if_icmp .ge 7, 3) := dz_162 (kBcX3_knows_1 46 rfl rfl) (kBcX3_knows_1 47 rfl rfl) (kBcX3_knows_1 48 rfl rfl) rfl
theorem dX3_knows_49 : decode cX3_knows 49 = .ok (.iconst 1, 1) := dz_4 (kBcX3_knows_1 49 rfl rfl)
theorem dX3_knows_50 : decode cX3_knows 50 = .ok (.goto 4, 3) := dz_167 (kBcX3_knows_1 50 rfl rfl) (kBcX3_knows_1 51 rfl rfl) (kBcX3_knows_1 52 rfl rfl) rfl
theorem dX3_knows_53 : decode cX3_knows 53 = .ok (.iconst 0, 1) := dz_3 (kBcX3_knows_1 53 rfl rfl)
theorem dX3_knows_54 : decode cX3_knows 54 = .ok (.ireturn, 1) := dz_172 (kBcX3_knows_1 54 rfl rfl)
theorem dX3_knows_55 : decode cX3_knows 55 = .ok (.iload_n 1, 1) := dz_27 (kBcX3_knows_1 55 rfl rfl)
theorem dX3_knows_56 : decode cX3_knows 56 = .ok (.ifCond .ne 21, 3) := dz_154 (kBcX3_knows_1 56 rfl rfl) (kBcX3_knows_1 57 rfl rfl) (kBcX3_knows_1 58 rfl rfl) rfl
theorem dX3_knows_59 : decode cX3_knows 59 = .ok (.iload_n 2, 1) := dz_28 (kBcX3_knows_1 59 rfl rfl)
theorem dX3_knows_60 : decode cX3_knows 60 = .ok (.ifCond .eq 13, 3) := dz_153 (kBcX3_knows_1 60 rfl rfl) (kBcX3_knows_1 61 rfl rfl) (kBcX3_knows_1 62 rfl rfl) rfl
theorem dX3_knows_63 : decode cX3_knows 63 = .ok (.iload_n 2, 1) := dz_28 (kBcX3_knows_1 63 rfl rfl)
theorem dX3_knows_64 : decode cX3_knows 64 = .ok (.bipush 6, 2) := dz_16 (kBcX3_knows_2 64 rfl rfl) (kBcX3_knows_2 65 rfl rfl) rfl
theorem dX3_knows_66 : decode cX3_knows 66 = .ok (.if_icmp .eq 7, 3) := dz_159 (kBcX3_knows_2 66 rfl rfl) (kBcX3_knows_2 67 rfl rfl) (kBcX3_knows_2 68 rfl rfl) rfl
theorem dX3_knows_69 : decode cX3_knows 69 = .ok (.iconst 1, 1) := dz_4 (kBcX3_knows_2 69 rfl rfl)
theorem dX3_knows_70 : decode cX3_knows 70 = .ok (.goto 32, 3) := dz_167 (kBcX3_knows_2 70 rfl rfl) (kBcX3_knows_2 71 rfl rfl) (kBcX3_knows_2 72 rfl rfl) rfl
theorem dX3_knows_73 : decode cX3_knows 73 = .ok (.iconst 0, 1) := dz_3 (kBcX3_knows_2 73 rfl rfl)
theorem dX3_knows_74 : decode cX3_knows 74 = .ok (.goto 28, 3) := dz_167 (kBcX3_knows_2 74 rfl rfl) (kBcX3_knows_2 75 rfl rfl) (kBcX3_knows_2 76 rfl rfl) rfl
theorem dX3_knows_77 : decode cX3_knows 77 = .ok (.iload_n 2, 1) := dz_28 (kBcX3_knows_2 77 rfl rfl)
theorem dX3_knows_78 : decode cX3_knows 78 = .ok (.i2l, 1) := dz_133 (kBcX3_knows_2 78 rfl rfl)
theorem dX3_knows_79 : decode cX3_knows 79 = .ok (.ldc2_w 28, 3) := dz_20 (kBcX3_knows_2 79 rfl rfl) (kBcX3_knows_2 80 rfl rfl) (kBcX3_knows_2 81 rfl rfl) rfl
theorem dX3_knows_82 : decode cX3_knows 82 = .ok (.ldc2_w 228, 3) := dz_20 (kBcX3_knows_2 82 rfl rfl) (kBcX3_knows_2 83 rfl rfl) (kBcX3_knows_2 84 rfl rfl) rfl
theorem dX3_knows_85 : decode cX3_knows 85 = .ok (.invokestatic 30, 3) := dz_184 (kBcX3_knows_2 85 rfl rfl) (kBcX3_knows_2 86 rfl rfl) (kBcX3_knows_2 87 rfl rfl) rfl
theorem dX3_knows_88 : decode cX3_knows 88 = .ok (.ifCond .ne 9, 3) := dz_154 (kBcX3_knows_2 88 rfl rfl) (kBcX3_knows_2 89 rfl rfl) (kBcX3_knows_2 90 rfl rfl) rfl
theorem dX3_knows_91 : decode cX3_knows 91 = .ok (.iload_n 2, 1) := dz_28 (kBcX3_knows_2 91 rfl rfl)
theorem dX3_knows_92 : decode cX3_knows 92 = .ok (.bipush 7, 2) := dz_16 (kBcX3_knows_2 92 rfl rfl) (kBcX3_knows_2 93 rfl rfl) rfl
theorem dX3_knows_94 : decode cX3_knows 94 = .ok (.if_icmp .le 7, 3) := dz_164 (kBcX3_knows_2 94 rfl rfl) (kBcX3_knows_2 95 rfl rfl) (kBcX3_knows_3 96 rfl rfl) rfl
theorem dX3_knows_97 : decode cX3_knows 97 = .ok (.iconst 1, 1) := dz_4 (kBcX3_knows_3 97 rfl rfl)
theorem dX3_knows_98 : decode cX3_knows 98 = .ok (.goto 4, 3) := dz_167 (kBcX3_knows_3 98 rfl rfl) (kBcX3_knows_3 99 rfl rfl) (kBcX3_knows_3 100 rfl rfl) rfl
theorem dX3_knows_101 : decode cX3_knows 101 = .ok (.iconst 0, 1) := dz_3 (kBcX3_knows_3 101 rfl rfl)
theorem dX3_knows_102 : decode cX3_knows 102 = .ok (.ireturn, 1) := dz_172 (kBcX3_knows_3 102 rfl rfl)
def kCcX3_edge_0 : List Nat := [42, 3, 181, 0, 24, 27, 153, 0, 8, 18, 233, 167, 0, 5, 18, 234, 172]
theorem kRcX3_edge_eq : cX3_edge.data.toList.map UInt8.toNat = kCcX3_edge_0 := by decide +kernel
theorem dX3_edge_0 : decode cX3_edge 0 = .ok (.aload_n 0, 1) := dz_42 (kin0 (p := 0) kRcX3_edge_eq rfl)
theorem dX3_edge_1 : decode cX3_edge 1 = .ok (.iconst 0, 1) := dz_3 (kin0 (p := 1) kRcX3_edge_eq rfl)
theorem dX3_edge_2 : decode cX3_edge 2 = .ok (.putfield 24, 3) := dz_181 (kin0 (p := 2) kRcX3_edge_eq rfl) (kin0 (p := 3) kRcX3_edge_eq rfl) (kin0 (p := 4) kRcX3_edge_eq rfl) rfl
theorem dX3_edge_5 : decode cX3_edge 5 = .ok (.iload_n 1, 1) := dz_27 (kin0 (p := 5) kRcX3_edge_eq rfl)
theorem dX3_edge_6 : decode cX3_edge 6 = .ok (.ifCond .eq 8, 3) := dz_153 (kin0 (p := 6) kRcX3_edge_eq rfl) (kin0 (p := 7) kRcX3_edge_eq rfl) (kin0 (p := 8) kRcX3_edge_eq rfl) rfl
theorem dX3_edge_9 : decode cX3_edge 9 = .ok (.ldc 233, 2) := dz_18 (kin0 (p := 9) kRcX3_edge_eq rfl) (kin0 (p := 10) kRcX3_edge_eq rfl)
theorem dX3_edge_11 : decode cX3_edge 11 = .ok (.goto 5, 3) := dz_167 (kin0 (p := 11) kRcX3_edge_eq rfl) (kin0 (p := 12) kRcX3_edge_eq rfl) (kin0 (p := 13) kRcX3_edge_eq rfl) rfl
theorem dX3_edge_14 : decode cX3_edge 14 = .ok (.ldc 234, 2) := dz_18 (kin0 (p := 14) kRcX3_edge_eq rfl) (kin0 (p := 15) kRcX3_edge_eq rfl)
theorem dX3_edge_16 : decode cX3_edge 16 = .ok (.ireturn, 1) := dz_172 (kin0 (p := 16) kRcX3_edge_eq rfl)
def kCcX3_knock_0 : List Nat := [42, 3, 181, 0, 24, 42, 89, 180, 0, 235, 4, 96, 181, 0, 235, 42, 180, 0, 235, 172]
theorem kRcX3_knock_eq : cX3_knock.data.toList.map UInt8.toNat = kCcX3_knock_0 := by decide +kernel
theorem dX3_knock_0 : decode cX3_knock 0 = .ok (.aload_n 0, 1) := dz_42 (kin0 (p := 0) kRcX3_knock_eq rfl)
theorem dX3_knock_1 : decode cX3_knock 1 = .ok (.iconst 0, 1) := dz_3 (kin0 (p := 1) kRcX3_knock_eq rfl)
theorem dX3_knock_2 : decode cX3_knock 2 = .ok (.putfield 24, 3) := dz_181 (kin0 (p := 2) kRcX3_knock_eq rfl) (kin0 (p := 3) kRcX3_knock_eq rfl) (kin0 (p := 4) kRcX3_knock_eq rfl) rfl
theorem dX3_knock_5 : decode cX3_knock 5 = .ok (.aload_n 0, 1) := dz_42 (kin0 (p := 5) kRcX3_knock_eq rfl)
theorem dX3_knock_6 : decode cX3_knock 6 = .ok (.dup, 1) := dz_89 (kin0 (p := 6) kRcX3_knock_eq rfl)
theorem dX3_knock_7 : decode cX3_knock 7 = .ok (.getfield 235, 3) := dz_180 (kin0 (p := 7) kRcX3_knock_eq rfl) (kin0 (p := 8) kRcX3_knock_eq rfl) (kin0 (p := 9) kRcX3_knock_eq rfl) rfl
theorem dX3_knock_10 : decode cX3_knock 10 = .ok (.iconst 1, 1) := dz_4 (kin0 (p := 10) kRcX3_knock_eq rfl)
theorem dX3_knock_11 : decode cX3_knock 11 = .ok (.iadd, 1) := dz_96 (kin0 (p := 11) kRcX3_knock_eq rfl)
theorem dX3_knock_12 : decode cX3_knock 12 = .ok (.putfield 235, 3) := dz_181 (kin0 (p := 12) kRcX3_knock_eq rfl) (kin0 (p := 13) kRcX3_knock_eq rfl) (kin0 (p := 14) kRcX3_knock_eq rfl) rfl
theorem dX3_knock_15 : decode cX3_knock 15 = .ok (.aload_n 0, 1) := dz_42 (kin0 (p := 15) kRcX3_knock_eq rfl)
theorem dX3_knock_16 : decode cX3_knock 16 = .ok (.getfield 235, 3) := dz_180 (kin0 (p := 16) kRcX3_knock_eq rfl) (kin0 (p := 17) kRcX3_knock_eq rfl) (kin0 (p := 18) kRcX3_knock_eq rfl) rfl
theorem dX3_knock_19 : decode cX3_knock 19 = .ok (.ireturn, 1) := dz_172 (kin0 (p := 19) kRcX3_knock_eq rfl)
def kCcX3_houseTold_0 : List Nat := [8, 188, 10, 89, 3, 3, 79, 89, 4, 3, 79, 89, 5, 3, 79, 89, 6, 3, 79, 89, 7, 42, 180, 0, 235, 79, 77, 3, 62, 29, 7, 162]
def kCcX3_houseTold_1 : List Nat := [0, 79, 44, 3, 92, 46, 42, 180, 0, 9, 29, 50, 3, 46, 133, 184, 0, 44, 184, 0, 78, 96, 79, 44, 4, 92, 46, 42, 180, 0, 15, 29]
def kCcX3_houseTold_2 : List Nat := [46, 133, 184, 0, 44, 184, 0, 78, 96, 79, 44, 5, 92, 46, 42, 180, 0, 18, 29, 50, 184, 0, 163, 184, 0, 78, 96, 79, 44, 6, 92, 46]
def kCcX3_houseTold_3 : List Nat := [42, 29, 8, 182, 0, 230, 96, 79, 132, 3, 1, 167, 255, 178, 44, 27, 46, 172]
def kRcX3_houseTold_4 : List Nat := []
def kRcX3_houseTold_3 : List Nat := kCcX3_houseTold_3 ++ kRcX3_houseTold_4
def kRcX3_houseTold_2 : List Nat := kCcX3_houseTold_2 ++ kRcX3_houseTold_3
def kRcX3_houseTold_1 : List Nat := kCcX3_houseTold_1 ++ kRcX3_houseTold_2
def kRcX3_houseTold_0 : List Nat := kCcX3_houseTold_0 ++ kRcX3_houseTold_1
theorem kRcX3_houseTold_eq : cX3_houseTold.data.toList.map UInt8.toNat = kRcX3_houseTold_0 := by decide +kernel
theorem katcX3_houseTold_0 (i : Nat) : (cX3_houseTold.data.toList.map UInt8.toNat)[0 + i]? = kRcX3_houseTold_0[i]? := by rw [kRcX3_houseTold_eq, Nat.zero_add]
theorem katcX3_houseTold_1 : ∀ i : Nat, (cX3_houseTold.data.toList.map UInt8.toNat)[32 + i]? = kRcX3_houseTold_1[i]? := kstep katcX3_houseTold_0 (C := kCcX3_houseTold_0) rfl rfl
theorem katcX3_houseTold_2 : ∀ i : Nat, (cX3_houseTold.data.toList.map UInt8.toNat)[64 + i]? = kRcX3_houseTold_2[i]? := kstep katcX3_houseTold_1 (C := kCcX3_houseTold_1) rfl rfl
theorem katcX3_houseTold_3 : ∀ i : Nat, (cX3_houseTold.data.toList.map UInt8.toNat)[96 + i]? = kRcX3_houseTold_3[i]? := kstep katcX3_houseTold_2 (C := kCcX3_houseTold_2) rfl rfl
theorem kBcX3_houseTold_0 {b : Nat} (p : Nat) (hp : Nat.ble 0 p = true) (h : kCcX3_houseTold_0[p - 0]? = some b) : kb cX3_houseTold p b := kin katcX3_houseTold_0 rfl hp h
theorem kBcX3_houseTold_1 {b : Nat} (p : Nat) (hp : Nat.ble 32 p = true) (h : kCcX3_houseTold_1[p - 32]? = some b) : kb cX3_houseTold p b := kin katcX3_houseTold_1 rfl hp h
theorem kBcX3_houseTold_2 {b : Nat} (p : Nat) (hp : Nat.ble 64 p = true) (h : kCcX3_houseTold_2[p - 64]? = some b) : kb cX3_houseTold p b := kin katcX3_houseTold_2 rfl hp h
theorem kBcX3_houseTold_3 {b : Nat} (p : Nat) (hp : Nat.ble 96 p = true) (h : kCcX3_houseTold_3[p - 96]? = some b) : kb cX3_houseTold p b := kin katcX3_houseTold_3 rfl hp h
theorem dX3_houseTold_0 : decode cX3_houseTold 0 = .ok (.iconst 5, 1) := dz_8 (kBcX3_houseTold_0 0 rfl rfl)
theorem dX3_houseTold_1 : decode cX3_houseTold 1 = .ok (.newarray .int, 2) := by decide +kernel
theorem dX3_houseTold_3 : decode cX3_houseTold 3 = .ok (.dup, 1) := dz_89 (kBcX3_houseTold_0 3 rfl rfl)
theorem dX3_houseTold_4 : decode cX3_houseTold 4 = .ok (.iconst 0, 1) := dz_3 (kBcX3_houseTold_0 4 rfl rfl)
theorem dX3_houseTold_5 : decode cX3_houseTold 5 = .ok (.iconst 0, 1) := dz_3 (kBcX3_houseTold_0 5 rfl rfl)
theorem dX3_houseTold_6 : decode cX3_houseTold 6 = .ok (.iastore, 1) := dz_79 (kBcX3_houseTold_0 6 rfl rfl)
theorem dX3_houseTold_7 : decode cX3_houseTold 7 = .ok (.dup, 1) := dz_89 (kBcX3_houseTold_0 7 rfl rfl)
theorem dX3_houseTold_8 : decode cX3_houseTold 8 = .ok (.iconst 1, 1) := dz_4 (kBcX3_houseTold_0 8 rfl rfl)
theorem dX3_houseTold_9 : decode cX3_houseTold 9 = .ok (.iconst 0, 1) := dz_3 (kBcX3_houseTold_0 9 rfl rfl)
theorem dX3_houseTold_10 : decode cX3_houseTold 10 = .ok (.iastore, 1) := dz_79 (kBcX3_houseTold_0 10 rfl rfl)
theorem dX3_houseTold_11 : decode cX3_houseTold 11 = .ok (.dup, 1) := dz_89 (kBcX3_houseTold_0 11 rfl rfl)
theorem dX3_houseTold_12 : decode cX3_houseTold 12 = .ok (.iconst 2, 1) := dz_5 (kBcX3_houseTold_0 12 rfl rfl)
theorem dX3_houseTold_13 : decode cX3_houseTold 13 = .ok (.iconst 0, 1) := dz_3 (kBcX3_houseTold_0 13 rfl rfl)
theorem dX3_houseTold_14 : decode cX3_houseTold 14 = .ok (.iastore, 1) := dz_79 (kBcX3_houseTold_0 14 rfl rfl)
theorem dX3_houseTold_15 : decode cX3_houseTold 15 = .ok (.dup, 1) := dz_89 (kBcX3_houseTold_0 15 rfl rfl)
theorem dX3_houseTold_16 : decode cX3_houseTold 16 = .ok (.iconst 3, 1) := dz_6 (kBcX3_houseTold_0 16 rfl rfl)
theorem dX3_houseTold_17 : decode cX3_houseTold 17 = .ok (.iconst 0, 1) := dz_3 (kBcX3_houseTold_0 17 rfl rfl)
theorem dX3_houseTold_18 : decode cX3_houseTold 18 = .ok (.iastore, 1) := dz_79 (kBcX3_houseTold_0 18 rfl rfl)
theorem dX3_houseTold_19 : decode cX3_houseTold 19 = .ok (.dup, 1) := dz_89 (kBcX3_houseTold_0 19 rfl rfl)
theorem dX3_houseTold_20 : decode cX3_houseTold 20 = .ok (.iconst 4, 1) := dz_7 (kBcX3_houseTold_0 20 rfl rfl)
theorem dX3_houseTold_21 : decode cX3_houseTold 21 = .ok (.aload_n 0, 1) := dz_42 (kBcX3_houseTold_0 21 rfl rfl)
theorem dX3_houseTold_22 : decode cX3_houseTold 22 = .ok (.getfield 235, 3) := dz_180 (kBcX3_houseTold_0 22 rfl rfl) (kBcX3_houseTold_0 23 rfl rfl) (kBcX3_houseTold_0 24 rfl rfl) rfl
theorem dX3_houseTold_25 : decode cX3_houseTold 25 = .ok (.iastore, 1) := dz_79 (kBcX3_houseTold_0 25 rfl rfl)
theorem dX3_houseTold_26 : decode cX3_houseTold 26 = .ok (.astore_n 2, 1) := dz_77 (kBcX3_houseTold_0 26 rfl rfl)
theorem dX3_houseTold_27 : decode cX3_houseTold 27 = .ok (.iconst 0, 1) := dz_3 (kBcX3_houseTold_0 27 rfl rfl)
theorem dX3_houseTold_28 : decode cX3_houseTold 28 = .ok (.istore_n 3, 1) := dz_62 (kBcX3_houseTold_0 28 rfl rfl)
theorem dX3_houseTold_29 : decode cX3_houseTold 29 = .ok (.iload_n 3, 1) := dz_29 (kBcX3_houseTold_0 29 rfl rfl)
theorem dX3_houseTold_30 : decode cX3_houseTold 30 = .ok (.iconst 4, 1) := dz_7 (kBcX3_houseTold_0 30 rfl rfl)
theorem dX3_houseTold_31 : decode cX3_houseTold 31 = .ok (.if_icmp .ge 79, 3) := dz_162 (kBcX3_houseTold_0 31 rfl rfl) (kBcX3_houseTold_1 32 rfl rfl) (kBcX3_houseTold_1 33 rfl rfl) rfl
theorem dX3_houseTold_34 : decode cX3_houseTold 34 = .ok (.aload_n 2, 1) := dz_44 (kBcX3_houseTold_1 34 rfl rfl)
theorem dX3_houseTold_35 : decode cX3_houseTold 35 = .ok (.iconst 0, 1) := dz_3 (kBcX3_houseTold_1 35 rfl rfl)
theorem dX3_houseTold_36 : decode cX3_houseTold 36 = .ok (.dup2, 1) := dz_92 (kBcX3_houseTold_1 36 rfl rfl)
theorem dX3_houseTold_37 : decode cX3_houseTold 37 = .ok (.iaload, 1) := dz_46 (kBcX3_houseTold_1 37 rfl rfl)
theorem dX3_houseTold_38 : decode cX3_houseTold 38 = .ok (.aload_n 0, 1) := dz_42 (kBcX3_houseTold_1 38 rfl rfl)
theorem dX3_houseTold_39 : decode cX3_houseTold 39 = .ok (.getfield 9, 3) := dz_180 (kBcX3_houseTold_1 39 rfl rfl) (kBcX3_houseTold_1 40 rfl rfl) (kBcX3_houseTold_1 41 rfl rfl) rfl
theorem dX3_houseTold_42 : decode cX3_houseTold 42 = .ok (.iload_n 3, 1) := dz_29 (kBcX3_houseTold_1 42 rfl rfl)
theorem dX3_houseTold_43 : decode cX3_houseTold 43 = .ok (.aaload, 1) := dz_50 (kBcX3_houseTold_1 43 rfl rfl)
theorem dX3_houseTold_44 : decode cX3_houseTold 44 = .ok (.iconst 0, 1) := dz_3 (kBcX3_houseTold_1 44 rfl rfl)
theorem dX3_houseTold_45 : decode cX3_houseTold 45 = .ok (.iaload, 1) := dz_46 (kBcX3_houseTold_1 45 rfl rfl)
theorem dX3_houseTold_46 : decode cX3_houseTold 46 = .ok (.i2l, 1) := dz_133 (kBcX3_houseTold_1 46 rfl rfl)
theorem dX3_houseTold_47 : decode cX3_houseTold 47 = .ok (.invokestatic 44, 3) := dz_184 (kBcX3_houseTold_1 47 rfl rfl) (kBcX3_houseTold_1 48 rfl rfl) (kBcX3_houseTold_1 49 rfl rfl) rfl
theorem dX3_houseTold_50 : decode cX3_houseTold 50 = .ok (.invokestatic 78, 3) := dz_184 (kBcX3_houseTold_1 50 rfl rfl) (kBcX3_houseTold_1 51 rfl rfl) (kBcX3_houseTold_1 52 rfl rfl) rfl
theorem dX3_houseTold_53 : decode cX3_houseTold 53 = .ok (.iadd, 1) := dz_96 (kBcX3_houseTold_1 53 rfl rfl)
theorem dX3_houseTold_54 : decode cX3_houseTold 54 = .ok (.iastore, 1) := dz_79 (kBcX3_houseTold_1 54 rfl rfl)
theorem dX3_houseTold_55 : decode cX3_houseTold 55 = .ok (.aload_n 2, 1) := dz_44 (kBcX3_houseTold_1 55 rfl rfl)
theorem dX3_houseTold_56 : decode cX3_houseTold 56 = .ok (.iconst 1, 1) := dz_4 (kBcX3_houseTold_1 56 rfl rfl)
theorem dX3_houseTold_57 : decode cX3_houseTold 57 = .ok (.dup2, 1) := dz_92 (kBcX3_houseTold_1 57 rfl rfl)
theorem dX3_houseTold_58 : decode cX3_houseTold 58 = .ok (.iaload, 1) := dz_46 (kBcX3_houseTold_1 58 rfl rfl)
theorem dX3_houseTold_59 : decode cX3_houseTold 59 = .ok (.aload_n 0, 1) := dz_42 (kBcX3_houseTold_1 59 rfl rfl)
theorem dX3_houseTold_60 : decode cX3_houseTold 60 = .ok (.getfield 15, 3) := dz_180 (kBcX3_houseTold_1 60 rfl rfl) (kBcX3_houseTold_1 61 rfl rfl) (kBcX3_houseTold_1 62 rfl rfl) rfl
theorem dX3_houseTold_63 : decode cX3_houseTold 63 = .ok (.iload_n 3, 1) := dz_29 (kBcX3_houseTold_1 63 rfl rfl)
theorem dX3_houseTold_64 : decode cX3_houseTold 64 = .ok (.iaload, 1) := dz_46 (kBcX3_houseTold_2 64 rfl rfl)
theorem dX3_houseTold_65 : decode cX3_houseTold 65 = .ok (.i2l, 1) := dz_133 (kBcX3_houseTold_2 65 rfl rfl)
theorem dX3_houseTold_66 : decode cX3_houseTold 66 = .ok (.invokestatic 44, 3) := dz_184 (kBcX3_houseTold_2 66 rfl rfl) (kBcX3_houseTold_2 67 rfl rfl) (kBcX3_houseTold_2 68 rfl rfl) rfl
theorem dX3_houseTold_69 : decode cX3_houseTold 69 = .ok (.invokestatic 78, 3) := dz_184 (kBcX3_houseTold_2 69 rfl rfl) (kBcX3_houseTold_2 70 rfl rfl) (kBcX3_houseTold_2 71 rfl rfl) rfl
theorem dX3_houseTold_72 : decode cX3_houseTold 72 = .ok (.iadd, 1) := dz_96 (kBcX3_houseTold_2 72 rfl rfl)
theorem dX3_houseTold_73 : decode cX3_houseTold 73 = .ok (.iastore, 1) := dz_79 (kBcX3_houseTold_2 73 rfl rfl)
theorem dX3_houseTold_74 : decode cX3_houseTold 74 = .ok (.aload_n 2, 1) := dz_44 (kBcX3_houseTold_2 74 rfl rfl)
theorem dX3_houseTold_75 : decode cX3_houseTold 75 = .ok (.iconst 2, 1) := dz_5 (kBcX3_houseTold_2 75 rfl rfl)
theorem dX3_houseTold_76 : decode cX3_houseTold 76 = .ok (.dup2, 1) := dz_92 (kBcX3_houseTold_2 76 rfl rfl)
theorem dX3_houseTold_77 : decode cX3_houseTold 77 = .ok (.iaload, 1) := dz_46 (kBcX3_houseTold_2 77 rfl rfl)
theorem dX3_houseTold_78 : decode cX3_houseTold 78 = .ok (.aload_n 0, 1) := dz_42 (kBcX3_houseTold_2 78 rfl rfl)
theorem dX3_houseTold_79 : decode cX3_houseTold 79 = .ok (.getfield 18, 3) := dz_180 (kBcX3_houseTold_2 79 rfl rfl) (kBcX3_houseTold_2 80 rfl rfl) (kBcX3_houseTold_2 81 rfl rfl) rfl
theorem dX3_houseTold_82 : decode cX3_houseTold 82 = .ok (.iload_n 3, 1) := dz_29 (kBcX3_houseTold_2 82 rfl rfl)
theorem dX3_houseTold_83 : decode cX3_houseTold 83 = .ok (.aaload, 1) := dz_50 (kBcX3_houseTold_2 83 rfl rfl)
theorem dX3_houseTold_84 : decode cX3_houseTold 84 = .ok (.invokestatic 163, 3) := dz_184 (kBcX3_houseTold_2 84 rfl rfl) (kBcX3_houseTold_2 85 rfl rfl) (kBcX3_houseTold_2 86 rfl rfl) rfl
theorem dX3_houseTold_87 : decode cX3_houseTold 87 = .ok (.invokestatic 78, 3) := dz_184 (kBcX3_houseTold_2 87 rfl rfl) (kBcX3_houseTold_2 88 rfl rfl) (kBcX3_houseTold_2 89 rfl rfl) rfl
theorem dX3_houseTold_90 : decode cX3_houseTold 90 = .ok (.iadd, 1) := dz_96 (kBcX3_houseTold_2 90 rfl rfl)
theorem dX3_houseTold_91 : decode cX3_houseTold 91 = .ok (.iastore, 1) := dz_79 (kBcX3_houseTold_2 91 rfl rfl)
theorem dX3_houseTold_92 : decode cX3_houseTold 92 = .ok (.aload_n 2, 1) := dz_44 (kBcX3_houseTold_2 92 rfl rfl)
theorem dX3_houseTold_93 : decode cX3_houseTold 93 = .ok (.iconst 3, 1) := dz_6 (kBcX3_houseTold_2 93 rfl rfl)
theorem dX3_houseTold_94 : decode cX3_houseTold 94 = .ok (.dup2, 1) := dz_92 (kBcX3_houseTold_2 94 rfl rfl)
theorem dX3_houseTold_95 : decode cX3_houseTold 95 = .ok (.iaload, 1) := dz_46 (kBcX3_houseTold_2 95 rfl rfl)
theorem dX3_houseTold_96 : decode cX3_houseTold 96 = .ok (.aload_n 0, 1) := dz_42 (kBcX3_houseTold_3 96 rfl rfl)
theorem dX3_houseTold_97 : decode cX3_houseTold 97 = .ok (.iload_n 3, 1) := dz_29 (kBcX3_houseTold_3 97 rfl rfl)
theorem dX3_houseTold_98 : decode cX3_houseTold 98 = .ok (.iconst 5, 1) := dz_8 (kBcX3_houseTold_3 98 rfl rfl)
theorem dX3_houseTold_99 : decode cX3_houseTold 99 = .ok (.invokevirtual 230, 3) := dz_182 (kBcX3_houseTold_3 99 rfl rfl) (kBcX3_houseTold_3 100 rfl rfl) (kBcX3_houseTold_3 101 rfl rfl) rfl
theorem dX3_houseTold_102 : decode cX3_houseTold 102 = .ok (.iadd, 1) := dz_96 (kBcX3_houseTold_3 102 rfl rfl)
theorem dX3_houseTold_103 : decode cX3_houseTold 103 = .ok (.iastore, 1) := dz_79 (kBcX3_houseTold_3 103 rfl rfl)
theorem dX3_houseTold_104 : decode cX3_houseTold 104 = .ok (.iinc 3 1, 3) := dz_132 (kBcX3_houseTold_3 104 rfl rfl) (kBcX3_houseTold_3 105 rfl rfl) (kBcX3_houseTold_3 106 rfl rfl) rfl
theorem dX3_houseTold_107 : decode cX3_houseTold 107 = .ok (.goto (-78), 3) := dz_167 (kBcX3_houseTold_3 107 rfl rfl) (kBcX3_houseTold_3 108 rfl rfl) (kBcX3_houseTold_3 109 rfl rfl) rfl
theorem dX3_houseTold_110 : decode cX3_houseTold 110 = .ok (.aload_n 2, 1) := dz_44 (kBcX3_houseTold_3 110 rfl rfl)
theorem dX3_houseTold_111 : decode cX3_houseTold 111 = .ok (.iload_n 1, 1) := dz_27 (kBcX3_houseTold_3 111 rfl rfl)
theorem dX3_houseTold_112 : decode cX3_houseTold 112 = .ok (.iaload, 1) := dz_46 (kBcX3_houseTold_3 112 rfl rfl)
theorem dX3_houseTold_113 : decode cX3_houseTold 113 = .ok (.ireturn, 1) := dz_172 (kBcX3_houseTold_3 113 rfl rfl)
def kCcX3_house_0 : List Nat := [42, 27, 133, 9, 20, 0, 121, 184, 0, 30, 154, 0, 7, 4, 167, 0, 4, 3, 3, 182, 0, 103, 153, 0, 7, 3, 167, 0, 8, 42, 27, 182]
def kCcX3_house_1 : List Nat := [0, 238, 172]
def kRcX3_house_2 : List Nat := []
def kRcX3_house_1 : List Nat := kCcX3_house_1 ++ kRcX3_house_2
def kRcX3_house_0 : List Nat := kCcX3_house_0 ++ kRcX3_house_1
theorem kRcX3_house_eq : cX3_house.data.toList.map UInt8.toNat = kRcX3_house_0 := by decide +kernel
theorem katcX3_house_0 (i : Nat) : (cX3_house.data.toList.map UInt8.toNat)[0 + i]? = kRcX3_house_0[i]? := by rw [kRcX3_house_eq, Nat.zero_add]
theorem katcX3_house_1 : ∀ i : Nat, (cX3_house.data.toList.map UInt8.toNat)[32 + i]? = kRcX3_house_1[i]? := kstep katcX3_house_0 (C := kCcX3_house_0) rfl rfl
theorem kBcX3_house_0 {b : Nat} (p : Nat) (hp : Nat.ble 0 p = true) (h : kCcX3_house_0[p - 0]? = some b) : kb cX3_house p b := kin katcX3_house_0 rfl hp h
theorem kBcX3_house_1 {b : Nat} (p : Nat) (hp : Nat.ble 32 p = true) (h : kCcX3_house_1[p - 32]? = some b) : kb cX3_house p b := kin katcX3_house_1 rfl hp h
theorem dX3_house_0 : decode cX3_house 0 = .ok (.aload_n 0, 1) := dz_42 (kBcX3_house_0 0 rfl rfl)
theorem dX3_house_1 : decode cX3_house 1 = .ok (.iload_n 1, 1) := dz_27 (kBcX3_house_0 1 rfl rfl)
theorem dX3_house_2 : decode cX3_house 2 = .ok (.i2l, 1) := dz_133 (kBcX3_house_0 2 rfl rfl)
theorem dX3_house_3 : decode cX3_house 3 = .ok (.lconst 0, 1) := dz_9 (kBcX3_house_0 3 rfl rfl)
theorem dX3_house_4 : decode cX3_house 4 = .ok (.ldc2_w 121, 3) := dz_20 (kBcX3_house_0 4 rfl rfl) (kBcX3_house_0 5 rfl rfl) (kBcX3_house_0 6 rfl rfl) rfl
theorem dX3_house_7 : decode cX3_house 7 = .ok (.invokestatic 30, 3) := dz_184 (kBcX3_house_0 7 rfl rfl) (kBcX3_house_0 8 rfl rfl) (kBcX3_house_0 9 rfl rfl) rfl
theorem dX3_house_10 : decode cX3_house 10 = .ok (.ifCond .ne 7, 3) := dz_154 (kBcX3_house_0 10 rfl rfl) (kBcX3_house_0 11 rfl rfl) (kBcX3_house_0 12 rfl rfl) rfl
theorem dX3_house_13 : decode cX3_house 13 = .ok (.iconst 1, 1) := dz_4 (kBcX3_house_0 13 rfl rfl)
theorem dX3_house_14 : decode cX3_house 14 = .ok (.goto 4, 3) := dz_167 (kBcX3_house_0 14 rfl rfl) (kBcX3_house_0 15 rfl rfl) (kBcX3_house_0 16 rfl rfl) rfl
theorem dX3_house_17 : decode cX3_house 17 = .ok (.iconst 0, 1) := dz_3 (kBcX3_house_0 17 rfl rfl)
theorem dX3_house_18 : decode cX3_house 18 = .ok (.iconst 0, 1) := dz_3 (kBcX3_house_0 18 rfl rfl)
theorem dX3_house_19 : decode cX3_house 19 = .ok (.invokevirtual 103, 3) := dz_182 (kBcX3_house_0 19 rfl rfl) (kBcX3_house_0 20 rfl rfl) (kBcX3_house_0 21 rfl rfl) rfl
theorem dX3_house_22 : decode cX3_house 22 = .ok (.ifCond .eq 7, 3) := dz_153 (kBcX3_house_0 22 rfl rfl) (kBcX3_house_0 23 rfl rfl) (kBcX3_house_0 24 rfl rfl) rfl
theorem dX3_house_25 : decode cX3_house 25 = .ok (.iconst 0, 1) := dz_3 (kBcX3_house_0 25 rfl rfl)
theorem dX3_house_26 : decode cX3_house 26 = .ok (.goto 8, 3) := dz_167 (kBcX3_house_0 26 rfl rfl) (kBcX3_house_0 27 rfl rfl) (kBcX3_house_0 28 rfl rfl) rfl
theorem dX3_house_29 : decode cX3_house 29 = .ok (.aload_n 0, 1) := dz_42 (kBcX3_house_0 29 rfl rfl)
theorem dX3_house_30 : decode cX3_house 30 = .ok (.iload_n 1, 1) := dz_27 (kBcX3_house_0 30 rfl rfl)
theorem dX3_house_31 : decode cX3_house 31 = .ok (.invokevirtual 238, 3) := dz_182 (kBcX3_house_0 31 rfl rfl) (kBcX3_house_1 32 rfl rfl) (kBcX3_house_1 33 rfl rfl) rfl
theorem dX3_house_34 : decode cX3_house 34 = .ok (.ireturn, 1) := dz_172 (kBcX3_house_1 34 rfl rfl)
def kCcX3_isSound_0 : List Nat := [42, 3, 181, 0, 24, 4, 172]
theorem kRcX3_isSound_eq : cX3_isSound.data.toList.map UInt8.toNat = kCcX3_isSound_0 := by decide +kernel
theorem dX3_isSound_0 : decode cX3_isSound 0 = .ok (.aload_n 0, 1) := dz_42 (kin0 (p := 0) kRcX3_isSound_eq rfl)
theorem dX3_isSound_1 : decode cX3_isSound 1 = .ok (.iconst 0, 1) := dz_3 (kin0 (p := 1) kRcX3_isSound_eq rfl)
theorem dX3_isSound_2 : decode cX3_isSound 2 = .ok (.putfield 24, 3) := dz_181 (kin0 (p := 2) kRcX3_isSound_eq rfl) (kin0 (p := 3) kRcX3_isSound_eq rfl) (kin0 (p := 4) kRcX3_isSound_eq rfl) rfl
theorem dX3_isSound_5 : decode cX3_isSound 5 = .ok (.iconst 1, 1) := dz_4 (kin0 (p := 5) kRcX3_isSound_eq rfl)
theorem dX3_isSound_6 : decode cX3_isSound 6 = .ok (.ireturn, 1) := dz_172 (kin0 (p := 6) kRcX3_isSound_eq rfl)
def kCcX3_add_0 : List Nat := [30, 20, 0, 157, 105, 32, 97, 173]
theorem kRcX3_add_eq : cX3_add.data.toList.map UInt8.toNat = kCcX3_add_0 := by decide +kernel
theorem dX3_add_0 : decode cX3_add 0 = .ok (.lload_n 0, 1) := dz_30 (kin0 (p := 0) kRcX3_add_eq rfl)
theorem dX3_add_1 : decode cX3_add 1 = .ok (.ldc2_w 157, 3) := dz_20 (kin0 (p := 1) kRcX3_add_eq rfl) (kin0 (p := 2) kRcX3_add_eq rfl) (kin0 (p := 3) kRcX3_add_eq rfl) rfl
theorem dX3_add_4 : decode cX3_add 4 = .ok (.lmul, 1) := dz_105 (kin0 (p := 4) kRcX3_add_eq rfl)
theorem dX3_add_5 : decode cX3_add 5 = .ok (.lload_n 2, 1) := dz_32 (kin0 (p := 5) kRcX3_add_eq rfl)
theorem dX3_add_6 : decode cX3_add 6 = .ok (.ladd, 1) := dz_97 (kin0 (p := 6) kRcX3_add_eq rfl)
theorem dX3_add_7 : decode cX3_add 7 = .ok (.lreturn, 1) := dz_173 (kin0 (p := 7) kRcX3_add_eq rfl)
def kCcX3_add__0 : List Nat := [30, 44, 182, 0, 241, 133, 184, 0, 246, 66, 3, 54, 5, 21, 5, 44, 182, 0, 241, 162, 0, 21, 33, 44, 21, 5, 182, 0, 250, 133, 184, 0]
def kCcX3_add__1 : List Nat := [246, 66, 132, 5, 1, 167, 255, 232, 33, 173]
def kRcX3_add__2 : List Nat := []
def kRcX3_add__1 : List Nat := kCcX3_add__1 ++ kRcX3_add__2
def kRcX3_add__0 : List Nat := kCcX3_add__0 ++ kRcX3_add__1
theorem kRcX3_add__eq : cX3_add_.data.toList.map UInt8.toNat = kRcX3_add__0 := by decide +kernel
theorem katcX3_add__0 (i : Nat) : (cX3_add_.data.toList.map UInt8.toNat)[0 + i]? = kRcX3_add__0[i]? := by rw [kRcX3_add__eq, Nat.zero_add]
theorem katcX3_add__1 : ∀ i : Nat, (cX3_add_.data.toList.map UInt8.toNat)[32 + i]? = kRcX3_add__1[i]? := kstep katcX3_add__0 (C := kCcX3_add__0) rfl rfl
theorem kBcX3_add__0 {b : Nat} (p : Nat) (hp : Nat.ble 0 p = true) (h : kCcX3_add__0[p - 0]? = some b) : kb cX3_add_ p b := kin katcX3_add__0 rfl hp h
theorem kBcX3_add__1 {b : Nat} (p : Nat) (hp : Nat.ble 32 p = true) (h : kCcX3_add__1[p - 32]? = some b) : kb cX3_add_ p b := kin katcX3_add__1 rfl hp h
theorem dX3_add__0 : decode cX3_add_ 0 = .ok (.lload_n 0, 1) := dz_30 (kBcX3_add__0 0 rfl rfl)
theorem dX3_add__1 : decode cX3_add_ 1 = .ok (.aload_n 2, 1) := dz_44 (kBcX3_add__0 1 rfl rfl)
theorem dX3_add__2 : decode cX3_add_ 2 = .ok (.invokevirtual 241, 3) := dz_182 (kBcX3_add__0 2 rfl rfl) (kBcX3_add__0 3 rfl rfl) (kBcX3_add__0 4 rfl rfl) rfl
theorem dX3_add__5 : decode cX3_add_ 5 = .ok (.i2l, 1) := dz_133 (kBcX3_add__0 5 rfl rfl)
theorem dX3_add__6 : decode cX3_add_ 6 = .ok (.invokestatic 246, 3) := dz_184 (kBcX3_add__0 6 rfl rfl) (kBcX3_add__0 7 rfl rfl) (kBcX3_add__0 8 rfl rfl) rfl
theorem dX3_add__9 : decode cX3_add_ 9 = .ok (.lstore_n 3, 1) := dz_66 (kBcX3_add__0 9 rfl rfl)
theorem dX3_add__10 : decode cX3_add_ 10 = .ok (.iconst 0, 1) := dz_3 (kBcX3_add__0 10 rfl rfl)
theorem dX3_add__11 : decode cX3_add_ 11 = .ok (.istore 5, 2) := dz_54 (kBcX3_add__0 11 rfl rfl) (kBcX3_add__0 12 rfl rfl)
theorem dX3_add__13 : decode cX3_add_ 13 = .ok (.iload 5, 2) := dz_21 (kBcX3_add__0 13 rfl rfl) (kBcX3_add__0 14 rfl rfl)
theorem dX3_add__15 : decode cX3_add_ 15 = .ok (.aload_n 2, 1) := dz_44 (kBcX3_add__0 15 rfl rfl)
theorem dX3_add__16 : decode cX3_add_ 16 = .ok (.invokevirtual 241, 3) := dz_182 (kBcX3_add__0 16 rfl rfl) (kBcX3_add__0 17 rfl rfl) (kBcX3_add__0 18 rfl rfl) rfl
theorem dX3_add__19 : decode cX3_add_ 19 = .ok (.if_icmp .ge 21, 3) := dz_162 (kBcX3_add__0 19 rfl rfl) (kBcX3_add__0 20 rfl rfl) (kBcX3_add__0 21 rfl rfl) rfl
theorem dX3_add__22 : decode cX3_add_ 22 = .ok (.lload_n 3, 1) := dz_33 (kBcX3_add__0 22 rfl rfl)
theorem dX3_add__23 : decode cX3_add_ 23 = .ok (.aload_n 2, 1) := dz_44 (kBcX3_add__0 23 rfl rfl)
theorem dX3_add__24 : decode cX3_add_ 24 = .ok (.iload 5, 2) := dz_21 (kBcX3_add__0 24 rfl rfl) (kBcX3_add__0 25 rfl rfl)
theorem dX3_add__26 : decode cX3_add_ 26 = .ok (.invokevirtual 250, 3) := dz_182 (kBcX3_add__0 26 rfl rfl) (kBcX3_add__0 27 rfl rfl) (kBcX3_add__0 28 rfl rfl) rfl
theorem dX3_add__29 : decode cX3_add_ 29 = .ok (.i2l, 1) := dz_133 (kBcX3_add__0 29 rfl rfl)
theorem dX3_add__30 : decode cX3_add_ 30 = .ok (.invokestatic 246, 3) := dz_184 (kBcX3_add__0 30 rfl rfl) (kBcX3_add__0 31 rfl rfl) (kBcX3_add__1 32 rfl rfl) rfl
theorem dX3_add__33 : decode cX3_add_ 33 = .ok (.lstore_n 3, 1) := dz_66 (kBcX3_add__1 33 rfl rfl)
theorem dX3_add__34 : decode cX3_add_ 34 = .ok (.iinc 5 1, 3) := dz_132 (kBcX3_add__1 34 rfl rfl) (kBcX3_add__1 35 rfl rfl) (kBcX3_add__1 36 rfl rfl) rfl
theorem dX3_add__37 : decode cX3_add_ 37 = .ok (.goto (-24), 3) := dz_167 (kBcX3_add__1 37 rfl rfl) (kBcX3_add__1 38 rfl rfl) (kBcX3_add__1 39 rfl rfl) rfl
theorem dX3_add__40 : decode cX3_add_ 40 = .ok (.lload_n 3, 1) := dz_33 (kBcX3_add__1 40 rfl rfl)
theorem dX3_add__41 : decode cX3_add_ 41 = .ok (.lreturn, 1) := dz_173 (kBcX3_add__1 41 rfl rfl)
def kCcX3_digest_0 : List Nat := [42, 3, 181, 0, 24, 20, 0, 254, 64, 3, 62, 29, 7, 162, 0, 70, 3, 54, 4, 21, 4, 16, 8, 162, 0, 22, 31, 42, 29, 21, 4, 182]
def kCcX3_digest_1 : List Nat := [0, 189, 133, 184, 0, 246, 64, 132, 4, 1, 167, 255, 233, 31, 187, 0, 194, 89, 183, 0, 196, 18, 192, 182, 0, 197, 42, 180, 0, 9, 29, 50]
def kCcX3_digest_2 : List Nat := [184, 0, 110, 182, 0, 201, 182, 0, 204, 184, 1, 0, 64, 132, 3, 1, 167, 255, 187, 3, 62, 29, 7, 162, 0, 37, 3, 54, 4, 21, 4, 8]
def kCcX3_digest_3 : List Nat := [162, 0, 22, 31, 42, 29, 21, 4, 182, 0, 222, 133, 184, 0, 246, 64, 132, 4, 1, 167, 255, 234, 132, 3, 1, 167, 255, 220, 3, 62, 29, 7]
def kCcX3_digest_4 : List Nat := [162, 0, 37, 3, 54, 4, 21, 4, 8, 162, 0, 22, 31, 42, 29, 21, 4, 182, 0, 225, 133, 184, 0, 246, 64, 132, 4, 1, 167, 255, 234, 132]
def kCcX3_digest_5 : List Nat := [3, 1, 167, 255, 220, 3, 62, 29, 7, 162, 0, 70, 3, 54, 4, 21, 4, 16, 6, 162, 0, 22, 31, 42, 29, 21, 4, 182, 0, 230, 133, 184]
def kCcX3_digest_6 : List Nat := [0, 246, 64, 132, 4, 1, 167, 255, 233, 31, 187, 0, 194, 89, 183, 0, 196, 18, 192, 182, 0, 197, 42, 180, 0, 21, 29, 50, 184, 0, 74, 182]
def kCcX3_digest_7 : List Nat := [0, 201, 182, 0, 204, 184, 1, 0, 64, 132, 3, 1, 167, 255, 187, 3, 62, 29, 7, 162, 0, 77, 3, 54, 4, 21, 4, 7, 162, 0, 62, 31]
def kCcX3_digest_8 : List Nat := [42, 180, 0, 9, 29, 50, 184, 0, 110, 42, 180, 0, 9, 21, 4, 50, 184, 0, 110, 3, 184, 0, 211, 133, 184, 0, 246, 64, 31, 42, 29, 21]
def kCcX3_digest_9 : List Nat := [4, 3, 182, 0, 218, 184, 1, 0, 42, 29, 21, 4, 4, 182, 0, 218, 184, 1, 0, 64, 132, 4, 1, 167, 255, 194, 132, 3, 1, 167, 255, 180]
def kCcX3_digest_10 : List Nat := [3, 62, 29, 7, 162, 0, 50, 3, 54, 4, 21, 4, 7, 162, 0, 35, 31, 42, 180, 0, 18, 21, 4, 50, 42, 180, 0, 15, 29, 46, 133, 184]
def kCcX3_digest_11 : List Nat := [0, 82, 184, 0, 78, 133, 184, 0, 246, 64, 132, 4, 1, 167, 255, 221, 132, 3, 1, 167, 255, 207, 3, 62, 29, 8, 162, 0, 20, 31, 42, 29]
def kCcX3_digest_12 : List Nat := [182, 0, 238, 133, 184, 0, 246, 64, 132, 3, 1, 167, 255, 237, 31, 10, 184, 0, 246, 173]
def kRcX3_digest_13 : List Nat := []
def kRcX3_digest_12 : List Nat := kCcX3_digest_12 ++ kRcX3_digest_13
def kRcX3_digest_11 : List Nat := kCcX3_digest_11 ++ kRcX3_digest_12
def kRcX3_digest_10 : List Nat := kCcX3_digest_10 ++ kRcX3_digest_11
def kRcX3_digest_9 : List Nat := kCcX3_digest_9 ++ kRcX3_digest_10
def kRcX3_digest_8 : List Nat := kCcX3_digest_8 ++ kRcX3_digest_9
def kRcX3_digest_7 : List Nat := kCcX3_digest_7 ++ kRcX3_digest_8
def kRcX3_digest_6 : List Nat := kCcX3_digest_6 ++ kRcX3_digest_7
def kRcX3_digest_5 : List Nat := kCcX3_digest_5 ++ kRcX3_digest_6
def kRcX3_digest_4 : List Nat := kCcX3_digest_4 ++ kRcX3_digest_5
def kRcX3_digest_3 : List Nat := kCcX3_digest_3 ++ kRcX3_digest_4
def kRcX3_digest_2 : List Nat := kCcX3_digest_2 ++ kRcX3_digest_3
def kRcX3_digest_1 : List Nat := kCcX3_digest_1 ++ kRcX3_digest_2
def kRcX3_digest_0 : List Nat := kCcX3_digest_0 ++ kRcX3_digest_1
theorem kRcX3_digest_eq : cX3_digest.data.toList.map UInt8.toNat = kRcX3_digest_0 := by decide +kernel
theorem katcX3_digest_0 (i : Nat) : (cX3_digest.data.toList.map UInt8.toNat)[0 + i]? = kRcX3_digest_0[i]? := by rw [kRcX3_digest_eq, Nat.zero_add]
theorem katcX3_digest_1 : ∀ i : Nat, (cX3_digest.data.toList.map UInt8.toNat)[32 + i]? = kRcX3_digest_1[i]? := kstep katcX3_digest_0 (C := kCcX3_digest_0) rfl rfl
theorem katcX3_digest_2 : ∀ i : Nat, (cX3_digest.data.toList.map UInt8.toNat)[64 + i]? = kRcX3_digest_2[i]? := kstep katcX3_digest_1 (C := kCcX3_digest_1) rfl rfl
theorem katcX3_digest_3 : ∀ i : Nat, (cX3_digest.data.toList.map UInt8.toNat)[96 + i]? = kRcX3_digest_3[i]? := kstep katcX3_digest_2 (C := kCcX3_digest_2) rfl rfl
theorem katcX3_digest_4 : ∀ i : Nat, (cX3_digest.data.toList.map UInt8.toNat)[128 + i]? = kRcX3_digest_4[i]? := kstep katcX3_digest_3 (C := kCcX3_digest_3) rfl rfl
theorem katcX3_digest_5 : ∀ i : Nat, (cX3_digest.data.toList.map UInt8.toNat)[160 + i]? = kRcX3_digest_5[i]? := kstep katcX3_digest_4 (C := kCcX3_digest_4) rfl rfl
theorem katcX3_digest_6 : ∀ i : Nat, (cX3_digest.data.toList.map UInt8.toNat)[192 + i]? = kRcX3_digest_6[i]? := kstep katcX3_digest_5 (C := kCcX3_digest_5) rfl rfl
theorem katcX3_digest_7 : ∀ i : Nat, (cX3_digest.data.toList.map UInt8.toNat)[224 + i]? = kRcX3_digest_7[i]? := kstep katcX3_digest_6 (C := kCcX3_digest_6) rfl rfl
theorem katcX3_digest_8 : ∀ i : Nat, (cX3_digest.data.toList.map UInt8.toNat)[256 + i]? = kRcX3_digest_8[i]? := kstep katcX3_digest_7 (C := kCcX3_digest_7) rfl rfl
theorem katcX3_digest_9 : ∀ i : Nat, (cX3_digest.data.toList.map UInt8.toNat)[288 + i]? = kRcX3_digest_9[i]? := kstep katcX3_digest_8 (C := kCcX3_digest_8) rfl rfl
theorem katcX3_digest_10 : ∀ i : Nat, (cX3_digest.data.toList.map UInt8.toNat)[320 + i]? = kRcX3_digest_10[i]? := kstep katcX3_digest_9 (C := kCcX3_digest_9) rfl rfl
theorem katcX3_digest_11 : ∀ i : Nat, (cX3_digest.data.toList.map UInt8.toNat)[352 + i]? = kRcX3_digest_11[i]? := kstep katcX3_digest_10 (C := kCcX3_digest_10) rfl rfl
theorem katcX3_digest_12 : ∀ i : Nat, (cX3_digest.data.toList.map UInt8.toNat)[384 + i]? = kRcX3_digest_12[i]? := kstep katcX3_digest_11 (C := kCcX3_digest_11) rfl rfl
theorem kBcX3_digest_0 {b : Nat} (p : Nat) (hp : Nat.ble 0 p = true) (h : kCcX3_digest_0[p - 0]? = some b) : kb cX3_digest p b := kin katcX3_digest_0 rfl hp h
theorem kBcX3_digest_1 {b : Nat} (p : Nat) (hp : Nat.ble 32 p = true) (h : kCcX3_digest_1[p - 32]? = some b) : kb cX3_digest p b := kin katcX3_digest_1 rfl hp h
theorem kBcX3_digest_2 {b : Nat} (p : Nat) (hp : Nat.ble 64 p = true) (h : kCcX3_digest_2[p - 64]? = some b) : kb cX3_digest p b := kin katcX3_digest_2 rfl hp h
theorem kBcX3_digest_3 {b : Nat} (p : Nat) (hp : Nat.ble 96 p = true) (h : kCcX3_digest_3[p - 96]? = some b) : kb cX3_digest p b := kin katcX3_digest_3 rfl hp h
theorem kBcX3_digest_4 {b : Nat} (p : Nat) (hp : Nat.ble 128 p = true) (h : kCcX3_digest_4[p - 128]? = some b) : kb cX3_digest p b := kin katcX3_digest_4 rfl hp h
theorem kBcX3_digest_5 {b : Nat} (p : Nat) (hp : Nat.ble 160 p = true) (h : kCcX3_digest_5[p - 160]? = some b) : kb cX3_digest p b := kin katcX3_digest_5 rfl hp h
theorem kBcX3_digest_6 {b : Nat} (p : Nat) (hp : Nat.ble 192 p = true) (h : kCcX3_digest_6[p - 192]? = some b) : kb cX3_digest p b := kin katcX3_digest_6 rfl hp h
theorem kBcX3_digest_7 {b : Nat} (p : Nat) (hp : Nat.ble 224 p = true) (h : kCcX3_digest_7[p - 224]? = some b) : kb cX3_digest p b := kin katcX3_digest_7 rfl hp h
theorem kBcX3_digest_8 {b : Nat} (p : Nat) (hp : Nat.ble 256 p = true) (h : kCcX3_digest_8[p - 256]? = some b) : kb cX3_digest p b := kin katcX3_digest_8 rfl hp h
theorem kBcX3_digest_9 {b : Nat} (p : Nat) (hp : Nat.ble 288 p = true) (h : kCcX3_digest_9[p - 288]? = some b) : kb cX3_digest p b := kin katcX3_digest_9 rfl hp h
theorem kBcX3_digest_10 {b : Nat} (p : Nat) (hp : Nat.ble 320 p = true) (h : kCcX3_digest_10[p - 320]? = some b) : kb cX3_digest p b := kin katcX3_digest_10 rfl hp h
theorem kBcX3_digest_11 {b : Nat} (p : Nat) (hp : Nat.ble 352 p = true) (h : kCcX3_digest_11[p - 352]? = some b) : kb cX3_digest p b := kin katcX3_digest_11 rfl hp h
theorem kBcX3_digest_12 {b : Nat} (p : Nat) (hp : Nat.ble 384 p = true) (h : kCcX3_digest_12[p - 384]? = some b) : kb cX3_digest p b := kin katcX3_digest_12 rfl hp h
theorem dX3_digest_0 : decode cX3_digest 0 = .ok (.aload_n 0, 1) := dz_42 (kBcX3_digest_0 0 rfl rfl)
theorem dX3_digest_1 : decode cX3_digest 1 = .ok (.iconst 0, 1) := dz_3 (kBcX3_digest_0 1 rfl rfl)
theorem dX3_digest_2 : decode cX3_digest 2 = .ok (.putfield 24, 3) := dz_181 (kBcX3_digest_0 2 rfl rfl) (kBcX3_digest_0 3 rfl rfl) (kBcX3_digest_0 4 rfl rfl) rfl
theorem dX3_digest_5 : decode cX3_digest 5 = .ok (.ldc2_w 254, 3) := dz_20 (kBcX3_digest_0 5 rfl rfl) (kBcX3_digest_0 6 rfl rfl) (kBcX3_digest_0 7 rfl rfl) rfl
theorem dX3_digest_8 : decode cX3_digest 8 = .ok (.lstore_n 1, 1) := dz_64 (kBcX3_digest_0 8 rfl rfl)
theorem dX3_digest_9 : decode cX3_digest 9 = .ok (.iconst 0, 1) := dz_3 (kBcX3_digest_0 9 rfl rfl)
theorem dX3_digest_10 : decode cX3_digest 10 = .ok (.istore_n 3, 1) := dz_62 (kBcX3_digest_0 10 rfl rfl)
theorem dX3_digest_11 : decode cX3_digest 11 = .ok (.iload_n 3, 1) := dz_29 (kBcX3_digest_0 11 rfl rfl)
theorem dX3_digest_12 : decode cX3_digest 12 = .ok (.iconst 4, 1) := dz_7 (kBcX3_digest_0 12 rfl rfl)
theorem dX3_digest_13 : decode cX3_digest 13 = .ok (.if_icmp .ge 70, 3) := dz_162 (kBcX3_digest_0 13 rfl rfl) (kBcX3_digest_0 14 rfl rfl) (kBcX3_digest_0 15 rfl rfl) rfl
theorem dX3_digest_16 : decode cX3_digest 16 = .ok (.iconst 0, 1) := dz_3 (kBcX3_digest_0 16 rfl rfl)
theorem dX3_digest_17 : decode cX3_digest 17 = .ok (.istore 4, 2) := dz_54 (kBcX3_digest_0 17 rfl rfl) (kBcX3_digest_0 18 rfl rfl)
theorem dX3_digest_19 : decode cX3_digest 19 = .ok (.iload 4, 2) := dz_21 (kBcX3_digest_0 19 rfl rfl) (kBcX3_digest_0 20 rfl rfl)
theorem dX3_digest_21 : decode cX3_digest 21 = .ok (.bipush 8, 2) := dz_16 (kBcX3_digest_0 21 rfl rfl) (kBcX3_digest_0 22 rfl rfl) rfl
theorem dX3_digest_23 : decode cX3_digest 23 = .ok (.if_icmp .ge 22, 3) := dz_162 (kBcX3_digest_0 23 rfl rfl) (kBcX3_digest_0 24 rfl rfl) (kBcX3_digest_0 25 rfl rfl) rfl
theorem dX3_digest_26 : decode cX3_digest 26 = .ok (.lload_n 1, 1) := dz_31 (kBcX3_digest_0 26 rfl rfl)
theorem dX3_digest_27 : decode cX3_digest 27 = .ok (.aload_n 0, 1) := dz_42 (kBcX3_digest_0 27 rfl rfl)
theorem dX3_digest_28 : decode cX3_digest 28 = .ok (.iload_n 3, 1) := dz_29 (kBcX3_digest_0 28 rfl rfl)
theorem dX3_digest_29 : decode cX3_digest 29 = .ok (.iload 4, 2) := dz_21 (kBcX3_digest_0 29 rfl rfl) (kBcX3_digest_0 30 rfl rfl)
theorem dX3_digest_31 : decode cX3_digest 31 = .ok (.invokevirtual 189, 3) := dz_182 (kBcX3_digest_0 31 rfl rfl) (kBcX3_digest_1 32 rfl rfl) (kBcX3_digest_1 33 rfl rfl) rfl
theorem dX3_digest_34 : decode cX3_digest 34 = .ok (.i2l, 1) := dz_133 (kBcX3_digest_1 34 rfl rfl)
theorem dX3_digest_35 : decode cX3_digest 35 = .ok (.invokestatic 246, 3) := dz_184 (kBcX3_digest_1 35 rfl rfl) (kBcX3_digest_1 36 rfl rfl) (kBcX3_digest_1 37 rfl rfl) rfl
theorem dX3_digest_38 : decode cX3_digest 38 = .ok (.lstore_n 1, 1) := dz_64 (kBcX3_digest_1 38 rfl rfl)
theorem dX3_digest_39 : decode cX3_digest 39 = .ok (.iinc 4 1, 3) := dz_132 (kBcX3_digest_1 39 rfl rfl) (kBcX3_digest_1 40 rfl rfl) (kBcX3_digest_1 41 rfl rfl) rfl
theorem dX3_digest_42 : decode cX3_digest 42 = .ok (.goto (-23), 3) := dz_167 (kBcX3_digest_1 42 rfl rfl) (kBcX3_digest_1 43 rfl rfl) (kBcX3_digest_1 44 rfl rfl) rfl
theorem dX3_digest_45 : decode cX3_digest 45 = .ok (.lload_n 1, 1) := dz_31 (kBcX3_digest_1 45 rfl rfl)
theorem dX3_digest_46 : decode cX3_digest 46 = .ok (.new 194, 3) := dz_187 (kBcX3_digest_1 46 rfl rfl) (kBcX3_digest_1 47 rfl rfl) (kBcX3_digest_1 48 rfl rfl) rfl
theorem dX3_digest_49 : decode cX3_digest 49 = .ok (.dup, 1) := dz_89 (kBcX3_digest_1 49 rfl rfl)
theorem dX3_digest_50 : decode cX3_digest 50 = .ok (.invokespecial 196, 3) := dz_183 (kBcX3_digest_1 50 rfl rfl) (kBcX3_digest_1 51 rfl rfl) (kBcX3_digest_1 52 rfl rfl) rfl
theorem dX3_digest_53 : decode cX3_digest 53 = .ok (.ldc 192, 2) := dz_18 (kBcX3_digest_1 53 rfl rfl) (kBcX3_digest_1 54 rfl rfl)
theorem dX3_digest_55 : decode cX3_digest 55 = .ok (.invokevirtual 197, 3) := dz_182 (kBcX3_digest_1 55 rfl rfl) (kBcX3_digest_1 56 rfl rfl) (kBcX3_digest_1 57 rfl rfl) rfl
theorem dX3_digest_58 : decode cX3_digest 58 = .ok (.aload_n 0, 1) := dz_42 (kBcX3_digest_1 58 rfl rfl)
theorem dX3_digest_59 : decode cX3_digest 59 = .ok (.getfield 9, 3) := dz_180 (kBcX3_digest_1 59 rfl rfl) (kBcX3_digest_1 60 rfl rfl) (kBcX3_digest_1 61 rfl rfl) rfl
theorem dX3_digest_62 : decode cX3_digest 62 = .ok (.iload_n 3, 1) := dz_29 (kBcX3_digest_1 62 rfl rfl)
theorem dX3_digest_63 : decode cX3_digest 63 = .ok (.aaload, 1) := dz_50 (kBcX3_digest_1 63 rfl rfl)
theorem dX3_digest_64 : decode cX3_digest 64 = .ok (.invokestatic 110, 3) := dz_184 (kBcX3_digest_2 64 rfl rfl) (kBcX3_digest_2 65 rfl rfl) (kBcX3_digest_2 66 rfl rfl) rfl
theorem dX3_digest_67 : decode cX3_digest 67 = .ok (.invokevirtual 201, 3) := dz_182 (kBcX3_digest_2 67 rfl rfl) (kBcX3_digest_2 68 rfl rfl) (kBcX3_digest_2 69 rfl rfl) rfl
theorem dX3_digest_70 : decode cX3_digest 70 = .ok (.invokevirtual 204, 3) := dz_182 (kBcX3_digest_2 70 rfl rfl) (kBcX3_digest_2 71 rfl rfl) (kBcX3_digest_2 72 rfl rfl) rfl
theorem dX3_digest_73 : decode cX3_digest 73 = .ok (.invokestatic 256, 3) := dz_184 (kBcX3_digest_2 73 rfl rfl) (kBcX3_digest_2 74 rfl rfl) (kBcX3_digest_2 75 rfl rfl) rfl
theorem dX3_digest_76 : decode cX3_digest 76 = .ok (.lstore_n 1, 1) := dz_64 (kBcX3_digest_2 76 rfl rfl)
theorem dX3_digest_77 : decode cX3_digest 77 = .ok (.iinc 3 1, 3) := dz_132 (kBcX3_digest_2 77 rfl rfl) (kBcX3_digest_2 78 rfl rfl) (kBcX3_digest_2 79 rfl rfl) rfl
theorem dX3_digest_80 : decode cX3_digest 80 = .ok (.goto (-69), 3) := dz_167 (kBcX3_digest_2 80 rfl rfl) (kBcX3_digest_2 81 rfl rfl) (kBcX3_digest_2 82 rfl rfl) rfl
theorem dX3_digest_83 : decode cX3_digest 83 = .ok (.iconst 0, 1) := dz_3 (kBcX3_digest_2 83 rfl rfl)
theorem dX3_digest_84 : decode cX3_digest 84 = .ok (.istore_n 3, 1) := dz_62 (kBcX3_digest_2 84 rfl rfl)
theorem dX3_digest_85 : decode cX3_digest 85 = .ok (.iload_n 3, 1) := dz_29 (kBcX3_digest_2 85 rfl rfl)
theorem dX3_digest_86 : decode cX3_digest 86 = .ok (.iconst 4, 1) := dz_7 (kBcX3_digest_2 86 rfl rfl)
theorem dX3_digest_87 : decode cX3_digest 87 = .ok (.if_icmp .ge 37, 3) := dz_162 (kBcX3_digest_2 87 rfl rfl) (kBcX3_digest_2 88 rfl rfl) (kBcX3_digest_2 89 rfl rfl) rfl
theorem dX3_digest_90 : decode cX3_digest 90 = .ok (.iconst 0, 1) := dz_3 (kBcX3_digest_2 90 rfl rfl)
theorem dX3_digest_91 : decode cX3_digest 91 = .ok (.istore 4, 2) := dz_54 (kBcX3_digest_2 91 rfl rfl) (kBcX3_digest_2 92 rfl rfl)
theorem dX3_digest_93 : decode cX3_digest 93 = .ok (.iload 4, 2) := dz_21 (kBcX3_digest_2 93 rfl rfl) (kBcX3_digest_2 94 rfl rfl)
theorem dX3_digest_95 : decode cX3_digest 95 = .ok (.iconst 5, 1) := dz_8 (kBcX3_digest_2 95 rfl rfl)
theorem dX3_digest_96 : decode cX3_digest 96 = .ok (.if_icmp .ge 22, 3) := dz_162 (kBcX3_digest_3 96 rfl rfl) (kBcX3_digest_3 97 rfl rfl) (kBcX3_digest_3 98 rfl rfl) rfl
theorem dX3_digest_99 : decode cX3_digest 99 = .ok (.lload_n 1, 1) := dz_31 (kBcX3_digest_3 99 rfl rfl)
theorem dX3_digest_100 : decode cX3_digest 100 = .ok (.aload_n 0, 1) := dz_42 (kBcX3_digest_3 100 rfl rfl)
theorem dX3_digest_101 : decode cX3_digest 101 = .ok (.iload_n 3, 1) := dz_29 (kBcX3_digest_3 101 rfl rfl)
theorem dX3_digest_102 : decode cX3_digest 102 = .ok (.iload 4, 2) := dz_21 (kBcX3_digest_3 102 rfl rfl) (kBcX3_digest_3 103 rfl rfl)
theorem dX3_digest_104 : decode cX3_digest 104 = .ok (.invokevirtual 222, 3) := dz_182 (kBcX3_digest_3 104 rfl rfl) (kBcX3_digest_3 105 rfl rfl) (kBcX3_digest_3 106 rfl rfl) rfl
theorem dX3_digest_107 : decode cX3_digest 107 = .ok (.i2l, 1) := dz_133 (kBcX3_digest_3 107 rfl rfl)
theorem dX3_digest_108 : decode cX3_digest 108 = .ok (.invokestatic 246, 3) := dz_184 (kBcX3_digest_3 108 rfl rfl) (kBcX3_digest_3 109 rfl rfl) (kBcX3_digest_3 110 rfl rfl) rfl
theorem dX3_digest_111 : decode cX3_digest 111 = .ok (.lstore_n 1, 1) := dz_64 (kBcX3_digest_3 111 rfl rfl)
theorem dX3_digest_112 : decode cX3_digest 112 = .ok (.iinc 4 1, 3) := dz_132 (kBcX3_digest_3 112 rfl rfl) (kBcX3_digest_3 113 rfl rfl) (kBcX3_digest_3 114 rfl rfl) rfl
theorem dX3_digest_115 : decode cX3_digest 115 = .ok (.goto (-22), 3) := dz_167 (kBcX3_digest_3 115 rfl rfl) (kBcX3_digest_3 116 rfl rfl) (kBcX3_digest_3 117 rfl rfl) rfl
theorem dX3_digest_118 : decode cX3_digest 118 = .ok (.iinc 3 1, 3) := dz_132 (kBcX3_digest_3 118 rfl rfl) (kBcX3_digest_3 119 rfl rfl) (kBcX3_digest_3 120 rfl rfl) rfl
theorem dX3_digest_121 : decode cX3_digest 121 = .ok (.goto (-36), 3) := dz_167 (kBcX3_digest_3 121 rfl rfl) (kBcX3_digest_3 122 rfl rfl) (kBcX3_digest_3 123 rfl rfl) rfl
theorem dX3_digest_124 : decode cX3_digest 124 = .ok (.iconst 0, 1) := dz_3 (kBcX3_digest_3 124 rfl rfl)
theorem dX3_digest_125 : decode cX3_digest 125 = .ok (.istore_n 3, 1) := dz_62 (kBcX3_digest_3 125 rfl rfl)
theorem dX3_digest_126 : decode cX3_digest 126 = .ok (.iload_n 3, 1) := dz_29 (kBcX3_digest_3 126 rfl rfl)
theorem dX3_digest_127 : decode cX3_digest 127 = .ok (.iconst 4, 1) := dz_7 (kBcX3_digest_3 127 rfl rfl)
theorem dX3_digest_128 : decode cX3_digest 128 = .ok (.if_icmp .ge 37, 3) := dz_162 (kBcX3_digest_4 128 rfl rfl) (kBcX3_digest_4 129 rfl rfl) (kBcX3_digest_4 130 rfl rfl) rfl
theorem dX3_digest_131 : decode cX3_digest 131 = .ok (.iconst 0, 1) := dz_3 (kBcX3_digest_4 131 rfl rfl)
theorem dX3_digest_132 : decode cX3_digest 132 = .ok (.istore 4, 2) := dz_54 (kBcX3_digest_4 132 rfl rfl) (kBcX3_digest_4 133 rfl rfl)
theorem dX3_digest_134 : decode cX3_digest 134 = .ok (.iload 4, 2) := dz_21 (kBcX3_digest_4 134 rfl rfl) (kBcX3_digest_4 135 rfl rfl)
theorem dX3_digest_136 : decode cX3_digest 136 = .ok (.iconst 5, 1) := dz_8 (kBcX3_digest_4 136 rfl rfl)
theorem dX3_digest_137 : decode cX3_digest 137 = .ok (.if_icmp .ge 22, 3) := dz_162 (kBcX3_digest_4 137 rfl rfl) (kBcX3_digest_4 138 rfl rfl) (kBcX3_digest_4 139 rfl rfl) rfl
theorem dX3_digest_140 : decode cX3_digest 140 = .ok (.lload_n 1, 1) := dz_31 (kBcX3_digest_4 140 rfl rfl)
theorem dX3_digest_141 : decode cX3_digest 141 = .ok (.aload_n 0, 1) := dz_42 (kBcX3_digest_4 141 rfl rfl)
theorem dX3_digest_142 : decode cX3_digest 142 = .ok (.iload_n 3, 1) := dz_29 (kBcX3_digest_4 142 rfl rfl)
theorem dX3_digest_143 : decode cX3_digest 143 = .ok (.iload 4, 2) := dz_21 (kBcX3_digest_4 143 rfl rfl) (kBcX3_digest_4 144 rfl rfl)
theorem dX3_digest_145 : decode cX3_digest 145 = .ok (.invokevirtual 225, 3) := dz_182 (kBcX3_digest_4 145 rfl rfl) (kBcX3_digest_4 146 rfl rfl) (kBcX3_digest_4 147 rfl rfl) rfl
theorem dX3_digest_148 : decode cX3_digest 148 = .ok (.i2l, 1) := dz_133 (kBcX3_digest_4 148 rfl rfl)
theorem dX3_digest_149 : decode cX3_digest 149 = .ok (.invokestatic 246, 3) := dz_184 (kBcX3_digest_4 149 rfl rfl) (kBcX3_digest_4 150 rfl rfl) (kBcX3_digest_4 151 rfl rfl) rfl
theorem dX3_digest_152 : decode cX3_digest 152 = .ok (.lstore_n 1, 1) := dz_64 (kBcX3_digest_4 152 rfl rfl)
theorem dX3_digest_153 : decode cX3_digest 153 = .ok (.iinc 4 1, 3) := dz_132 (kBcX3_digest_4 153 rfl rfl) (kBcX3_digest_4 154 rfl rfl) (kBcX3_digest_4 155 rfl rfl) rfl
theorem dX3_digest_156 : decode cX3_digest 156 = .ok (.goto (-22), 3) := dz_167 (kBcX3_digest_4 156 rfl rfl) (kBcX3_digest_4 157 rfl rfl) (kBcX3_digest_4 158 rfl rfl) rfl
theorem dX3_digest_159 : decode cX3_digest 159 = .ok (.iinc 3 1, 3) := dz_132 (kBcX3_digest_4 159 rfl rfl) (kBcX3_digest_5 160 rfl rfl) (kBcX3_digest_5 161 rfl rfl) rfl
theorem dX3_digest_162 : decode cX3_digest 162 = .ok (.goto (-36), 3) := dz_167 (kBcX3_digest_5 162 rfl rfl) (kBcX3_digest_5 163 rfl rfl) (kBcX3_digest_5 164 rfl rfl) rfl
theorem dX3_digest_165 : decode cX3_digest 165 = .ok (.iconst 0, 1) := dz_3 (kBcX3_digest_5 165 rfl rfl)
theorem dX3_digest_166 : decode cX3_digest 166 = .ok (.istore_n 3, 1) := dz_62 (kBcX3_digest_5 166 rfl rfl)
theorem dX3_digest_167 : decode cX3_digest 167 = .ok (.iload_n 3, 1) := dz_29 (kBcX3_digest_5 167 rfl rfl)
theorem dX3_digest_168 : decode cX3_digest 168 = .ok (.iconst 4, 1) := dz_7 (kBcX3_digest_5 168 rfl rfl)
theorem dX3_digest_169 : decode cX3_digest 169 = .ok (.if_icmp .ge 70, 3) := dz_162 (kBcX3_digest_5 169 rfl rfl) (kBcX3_digest_5 170 rfl rfl) (kBcX3_digest_5 171 rfl rfl) rfl
theorem dX3_digest_172 : decode cX3_digest 172 = .ok (.iconst 0, 1) := dz_3 (kBcX3_digest_5 172 rfl rfl)
theorem dX3_digest_173 : decode cX3_digest 173 = .ok (.istore 4, 2) := dz_54 (kBcX3_digest_5 173 rfl rfl) (kBcX3_digest_5 174 rfl rfl)
theorem dX3_digest_175 : decode cX3_digest 175 = .ok (.iload 4, 2) := dz_21 (kBcX3_digest_5 175 rfl rfl) (kBcX3_digest_5 176 rfl rfl)
theorem dX3_digest_177 : decode cX3_digest 177 = .ok (.bipush 6, 2) := dz_16 (kBcX3_digest_5 177 rfl rfl) (kBcX3_digest_5 178 rfl rfl) rfl
theorem dX3_digest_179 : decode cX3_digest 179 = .ok (.if_icmp .ge 22, 3) := dz_162 (kBcX3_digest_5 179 rfl rfl) (kBcX3_digest_5 180 rfl rfl) (kBcX3_digest_5 181 rfl rfl) rfl
theorem dX3_digest_182 : decode cX3_digest 182 = .ok (.lload_n 1, 1) := dz_31 (kBcX3_digest_5 182 rfl rfl)
theorem dX3_digest_183 : decode cX3_digest 183 = .ok (.aload_n 0, 1) := dz_42 (kBcX3_digest_5 183 rfl rfl)
theorem dX3_digest_184 : decode cX3_digest 184 = .ok (.iload_n 3, 1) := dz_29 (kBcX3_digest_5 184 rfl rfl)
theorem dX3_digest_185 : decode cX3_digest 185 = .ok (.iload 4, 2) := dz_21 (kBcX3_digest_5 185 rfl rfl) (kBcX3_digest_5 186 rfl rfl)
theorem dX3_digest_187 : decode cX3_digest 187 = .ok (.invokevirtual 230, 3) := dz_182 (kBcX3_digest_5 187 rfl rfl) (kBcX3_digest_5 188 rfl rfl) (kBcX3_digest_5 189 rfl rfl) rfl
theorem dX3_digest_190 : decode cX3_digest 190 = .ok (.i2l, 1) := dz_133 (kBcX3_digest_5 190 rfl rfl)
theorem dX3_digest_191 : decode cX3_digest 191 = .ok (.invokestatic 246, 3) := dz_184 (kBcX3_digest_5 191 rfl rfl) (kBcX3_digest_6 192 rfl rfl) (kBcX3_digest_6 193 rfl rfl) rfl
theorem dX3_digest_194 : decode cX3_digest 194 = .ok (.lstore_n 1, 1) := dz_64 (kBcX3_digest_6 194 rfl rfl)
theorem dX3_digest_195 : decode cX3_digest 195 = .ok (.iinc 4 1, 3) := dz_132 (kBcX3_digest_6 195 rfl rfl) (kBcX3_digest_6 196 rfl rfl) (kBcX3_digest_6 197 rfl rfl) rfl
theorem dX3_digest_198 : decode cX3_digest 198 = .ok (.goto (-23), 3) := dz_167 (kBcX3_digest_6 198 rfl rfl) (kBcX3_digest_6 199 rfl rfl) (kBcX3_digest_6 200 rfl rfl) rfl
theorem dX3_digest_201 : decode cX3_digest 201 = .ok (.lload_n 1, 1) := dz_31 (kBcX3_digest_6 201 rfl rfl)
theorem dX3_digest_202 : decode cX3_digest 202 = .ok (.new 194, 3) := dz_187 (kBcX3_digest_6 202 rfl rfl) (kBcX3_digest_6 203 rfl rfl) (kBcX3_digest_6 204 rfl rfl) rfl
theorem dX3_digest_205 : decode cX3_digest 205 = .ok (.dup, 1) := dz_89 (kBcX3_digest_6 205 rfl rfl)
theorem dX3_digest_206 : decode cX3_digest 206 = .ok (.invokespecial 196, 3) := dz_183 (kBcX3_digest_6 206 rfl rfl) (kBcX3_digest_6 207 rfl rfl) (kBcX3_digest_6 208 rfl rfl) rfl
theorem dX3_digest_209 : decode cX3_digest 209 = .ok (.ldc 192, 2) := dz_18 (kBcX3_digest_6 209 rfl rfl) (kBcX3_digest_6 210 rfl rfl)
theorem dX3_digest_211 : decode cX3_digest 211 = .ok (.invokevirtual 197, 3) := dz_182 (kBcX3_digest_6 211 rfl rfl) (kBcX3_digest_6 212 rfl rfl) (kBcX3_digest_6 213 rfl rfl) rfl
theorem dX3_digest_214 : decode cX3_digest 214 = .ok (.aload_n 0, 1) := dz_42 (kBcX3_digest_6 214 rfl rfl)
theorem dX3_digest_215 : decode cX3_digest 215 = .ok (.getfield 21, 3) := dz_180 (kBcX3_digest_6 215 rfl rfl) (kBcX3_digest_6 216 rfl rfl) (kBcX3_digest_6 217 rfl rfl) rfl
theorem dX3_digest_218 : decode cX3_digest 218 = .ok (.iload_n 3, 1) := dz_29 (kBcX3_digest_6 218 rfl rfl)
theorem dX3_digest_219 : decode cX3_digest 219 = .ok (.aaload, 1) := dz_50 (kBcX3_digest_6 219 rfl rfl)
theorem dX3_digest_220 : decode cX3_digest 220 = .ok (.invokestatic 74, 3) := dz_184 (kBcX3_digest_6 220 rfl rfl) (kBcX3_digest_6 221 rfl rfl) (kBcX3_digest_6 222 rfl rfl) rfl
theorem dX3_digest_223 : decode cX3_digest 223 = .ok (.invokevirtual 201, 3) := dz_182 (kBcX3_digest_6 223 rfl rfl) (kBcX3_digest_7 224 rfl rfl) (kBcX3_digest_7 225 rfl rfl) rfl
theorem dX3_digest_226 : decode cX3_digest 226 = .ok (.invokevirtual 204, 3) := dz_182 (kBcX3_digest_7 226 rfl rfl) (kBcX3_digest_7 227 rfl rfl) (kBcX3_digest_7 228 rfl rfl) rfl
theorem dX3_digest_229 : decode cX3_digest 229 = .ok (.invokestatic 256, 3) := dz_184 (kBcX3_digest_7 229 rfl rfl) (kBcX3_digest_7 230 rfl rfl) (kBcX3_digest_7 231 rfl rfl) rfl
theorem dX3_digest_232 : decode cX3_digest 232 = .ok (.lstore_n 1, 1) := dz_64 (kBcX3_digest_7 232 rfl rfl)
theorem dX3_digest_233 : decode cX3_digest 233 = .ok (.iinc 3 1, 3) := dz_132 (kBcX3_digest_7 233 rfl rfl) (kBcX3_digest_7 234 rfl rfl) (kBcX3_digest_7 235 rfl rfl) rfl
theorem dX3_digest_236 : decode cX3_digest 236 = .ok (.goto (-69), 3) := dz_167 (kBcX3_digest_7 236 rfl rfl) (kBcX3_digest_7 237 rfl rfl) (kBcX3_digest_7 238 rfl rfl) rfl
theorem dX3_digest_239 : decode cX3_digest 239 = .ok (.iconst 0, 1) := dz_3 (kBcX3_digest_7 239 rfl rfl)
theorem dX3_digest_240 : decode cX3_digest 240 = .ok (.istore_n 3, 1) := dz_62 (kBcX3_digest_7 240 rfl rfl)
theorem dX3_digest_241 : decode cX3_digest 241 = .ok (.iload_n 3, 1) := dz_29 (kBcX3_digest_7 241 rfl rfl)
theorem dX3_digest_242 : decode cX3_digest 242 = .ok (.iconst 4, 1) := dz_7 (kBcX3_digest_7 242 rfl rfl)
theorem dX3_digest_243 : decode cX3_digest 243 = .ok (.if_icmp .ge 77, 3) := dz_162 (kBcX3_digest_7 243 rfl rfl) (kBcX3_digest_7 244 rfl rfl) (kBcX3_digest_7 245 rfl rfl) rfl
theorem dX3_digest_246 : decode cX3_digest 246 = .ok (.iconst 0, 1) := dz_3 (kBcX3_digest_7 246 rfl rfl)
theorem dX3_digest_247 : decode cX3_digest 247 = .ok (.istore 4, 2) := dz_54 (kBcX3_digest_7 247 rfl rfl) (kBcX3_digest_7 248 rfl rfl)
theorem dX3_digest_249 : decode cX3_digest 249 = .ok (.iload 4, 2) := dz_21 (kBcX3_digest_7 249 rfl rfl) (kBcX3_digest_7 250 rfl rfl)
theorem dX3_digest_251 : decode cX3_digest 251 = .ok (.iconst 4, 1) := dz_7 (kBcX3_digest_7 251 rfl rfl)
theorem dX3_digest_252 : decode cX3_digest 252 = .ok (.if_icmp .ge 62, 3) := dz_162 (kBcX3_digest_7 252 rfl rfl) (kBcX3_digest_7 253 rfl rfl) (kBcX3_digest_7 254 rfl rfl) rfl
theorem dX3_digest_255 : decode cX3_digest 255 = .ok (.lload_n 1, 1) := dz_31 (kBcX3_digest_7 255 rfl rfl)
theorem dX3_digest_256 : decode cX3_digest 256 = .ok (.aload_n 0, 1) := dz_42 (kBcX3_digest_8 256 rfl rfl)
theorem dX3_digest_257 : decode cX3_digest 257 = .ok (.getfield 9, 3) := dz_180 (kBcX3_digest_8 257 rfl rfl) (kBcX3_digest_8 258 rfl rfl) (kBcX3_digest_8 259 rfl rfl) rfl
theorem dX3_digest_260 : decode cX3_digest 260 = .ok (.iload_n 3, 1) := dz_29 (kBcX3_digest_8 260 rfl rfl)
theorem dX3_digest_261 : decode cX3_digest 261 = .ok (.aaload, 1) := dz_50 (kBcX3_digest_8 261 rfl rfl)
theorem dX3_digest_262 : decode cX3_digest 262 = .ok (.invokestatic 110, 3) := dz_184 (kBcX3_digest_8 262 rfl rfl) (kBcX3_digest_8 263 rfl rfl) (kBcX3_digest_8 264 rfl rfl) rfl
theorem dX3_digest_265 : decode cX3_digest 265 = .ok (.aload_n 0, 1) := dz_42 (kBcX3_digest_8 265 rfl rfl)
theorem dX3_digest_266 : decode cX3_digest 266 = .ok (.getfield 9, 3) := dz_180 (kBcX3_digest_8 266 rfl rfl) (kBcX3_digest_8 267 rfl rfl) (kBcX3_digest_8 268 rfl rfl) rfl
theorem dX3_digest_269 : decode cX3_digest 269 = .ok (.iload 4, 2) := dz_21 (kBcX3_digest_8 269 rfl rfl) (kBcX3_digest_8 270 rfl rfl)
theorem dX3_digest_271 : decode cX3_digest 271 = .ok (.aaload, 1) := dz_50 (kBcX3_digest_8 271 rfl rfl)
theorem dX3_digest_272 : decode cX3_digest 272 = .ok (.invokestatic 110, 3) := dz_184 (kBcX3_digest_8 272 rfl rfl) (kBcX3_digest_8 273 rfl rfl) (kBcX3_digest_8 274 rfl rfl) rfl
theorem dX3_digest_275 : decode cX3_digest 275 = .ok (.iconst 0, 1) := dz_3 (kBcX3_digest_8 275 rfl rfl)
theorem dX3_digest_276 : decode cX3_digest 276 = .ok (.invokestatic 211, 3) := dz_184 (kBcX3_digest_8 276 rfl rfl) (kBcX3_digest_8 277 rfl rfl) (kBcX3_digest_8 278 rfl rfl) rfl
theorem dX3_digest_279 : decode cX3_digest 279 = .ok (.i2l, 1) := dz_133 (kBcX3_digest_8 279 rfl rfl)
theorem dX3_digest_280 : decode cX3_digest 280 = .ok (.invokestatic 246, 3) := dz_184 (kBcX3_digest_8 280 rfl rfl) (kBcX3_digest_8 281 rfl rfl) (kBcX3_digest_8 282 rfl rfl) rfl
theorem dX3_digest_283 : decode cX3_digest 283 = .ok (.lstore_n 1, 1) := dz_64 (kBcX3_digest_8 283 rfl rfl)
theorem dX3_digest_284 : decode cX3_digest 284 = .ok (.lload_n 1, 1) := dz_31 (kBcX3_digest_8 284 rfl rfl)
theorem dX3_digest_285 : decode cX3_digest 285 = .ok (.aload_n 0, 1) := dz_42 (kBcX3_digest_8 285 rfl rfl)
theorem dX3_digest_286 : decode cX3_digest 286 = .ok (.iload_n 3, 1) := dz_29 (kBcX3_digest_8 286 rfl rfl)
theorem dX3_digest_287 : decode cX3_digest 287 = .ok (.iload 4, 2) := dz_21 (kBcX3_digest_8 287 rfl rfl) (kBcX3_digest_9 288 rfl rfl)
theorem dX3_digest_289 : decode cX3_digest 289 = .ok (.iconst 0, 1) := dz_3 (kBcX3_digest_9 289 rfl rfl)
theorem dX3_digest_290 : decode cX3_digest 290 = .ok (.invokevirtual 218, 3) := dz_182 (kBcX3_digest_9 290 rfl rfl) (kBcX3_digest_9 291 rfl rfl) (kBcX3_digest_9 292 rfl rfl) rfl
theorem dX3_digest_293 : decode cX3_digest 293 = .ok (.invokestatic 256, 3) := dz_184 (kBcX3_digest_9 293 rfl rfl) (kBcX3_digest_9 294 rfl rfl) (kBcX3_digest_9 295 rfl rfl) rfl
theorem dX3_digest_296 : decode cX3_digest 296 = .ok (.aload_n 0, 1) := dz_42 (kBcX3_digest_9 296 rfl rfl)
theorem dX3_digest_297 : decode cX3_digest 297 = .ok (.iload_n 3, 1) := dz_29 (kBcX3_digest_9 297 rfl rfl)
theorem dX3_digest_298 : decode cX3_digest 298 = .ok (.iload 4, 2) := dz_21 (kBcX3_digest_9 298 rfl rfl) (kBcX3_digest_9 299 rfl rfl)
theorem dX3_digest_300 : decode cX3_digest 300 = .ok (.iconst 1, 1) := dz_4 (kBcX3_digest_9 300 rfl rfl)
theorem dX3_digest_301 : decode cX3_digest 301 = .ok (.invokevirtual 218, 3) := dz_182 (kBcX3_digest_9 301 rfl rfl) (kBcX3_digest_9 302 rfl rfl) (kBcX3_digest_9 303 rfl rfl) rfl
theorem dX3_digest_304 : decode cX3_digest 304 = .ok (.invokestatic 256, 3) := dz_184 (kBcX3_digest_9 304 rfl rfl) (kBcX3_digest_9 305 rfl rfl) (kBcX3_digest_9 306 rfl rfl) rfl
theorem dX3_digest_307 : decode cX3_digest 307 = .ok (.lstore_n 1, 1) := dz_64 (kBcX3_digest_9 307 rfl rfl)
theorem dX3_digest_308 : decode cX3_digest 308 = .ok (.iinc 4 1, 3) := dz_132 (kBcX3_digest_9 308 rfl rfl) (kBcX3_digest_9 309 rfl rfl) (kBcX3_digest_9 310 rfl rfl) rfl
theorem dX3_digest_311 : decode cX3_digest 311 = .ok (.goto (-62), 3) := dz_167 (kBcX3_digest_9 311 rfl rfl) (kBcX3_digest_9 312 rfl rfl) (kBcX3_digest_9 313 rfl rfl) rfl
theorem dX3_digest_314 : decode cX3_digest 314 = .ok (.iinc 3 1, 3) := dz_132 (kBcX3_digest_9 314 rfl rfl) (kBcX3_digest_9 315 rfl rfl) (kBcX3_digest_9 316 rfl rfl) rfl
theorem dX3_digest_317 : decode cX3_digest 317 = .ok (.goto (-76), 3) := dz_167 (kBcX3_digest_9 317 rfl rfl) (kBcX3_digest_9 318 rfl rfl) (kBcX3_digest_9 319 rfl rfl) rfl
theorem dX3_digest_320 : decode cX3_digest 320 = .ok (.iconst 0, 1) := dz_3 (kBcX3_digest_10 320 rfl rfl)
theorem dX3_digest_321 : decode cX3_digest 321 = .ok (.istore_n 3, 1) := dz_62 (kBcX3_digest_10 321 rfl rfl)
theorem dX3_digest_322 : decode cX3_digest 322 = .ok (.iload_n 3, 1) := dz_29 (kBcX3_digest_10 322 rfl rfl)
theorem dX3_digest_323 : decode cX3_digest 323 = .ok (.iconst 4, 1) := dz_7 (kBcX3_digest_10 323 rfl rfl)
theorem dX3_digest_324 : decode cX3_digest 324 = .ok (.if_icmp .ge 50, 3) := dz_162 (kBcX3_digest_10 324 rfl rfl) (kBcX3_digest_10 325 rfl rfl) (kBcX3_digest_10 326 rfl rfl) rfl
theorem dX3_digest_327 : decode cX3_digest 327 = .ok (.iconst 0, 1) := dz_3 (kBcX3_digest_10 327 rfl rfl)
theorem dX3_digest_328 : decode cX3_digest 328 = .ok (.istore 4, 2) := dz_54 (kBcX3_digest_10 328 rfl rfl) (kBcX3_digest_10 329 rfl rfl)
theorem dX3_digest_330 : decode cX3_digest 330 = .ok (.iload 4, 2) := dz_21 (kBcX3_digest_10 330 rfl rfl) (kBcX3_digest_10 331 rfl rfl)
theorem dX3_digest_332 : decode cX3_digest 332 = .ok (.iconst 4, 1) := dz_7 (kBcX3_digest_10 332 rfl rfl)
theorem dX3_digest_333 : decode cX3_digest 333 = .ok (.if_icmp .ge 35, 3) := dz_162 (kBcX3_digest_10 333 rfl rfl) (kBcX3_digest_10 334 rfl rfl) (kBcX3_digest_10 335 rfl rfl) rfl
theorem dX3_digest_336 : decode cX3_digest 336 = .ok (.lload_n 1, 1) := dz_31 (kBcX3_digest_10 336 rfl rfl)
theorem dX3_digest_337 : decode cX3_digest 337 = .ok (.aload_n 0, 1) := dz_42 (kBcX3_digest_10 337 rfl rfl)
theorem dX3_digest_338 : decode cX3_digest 338 = .ok (.getfield 18, 3) := dz_180 (kBcX3_digest_10 338 rfl rfl) (kBcX3_digest_10 339 rfl rfl) (kBcX3_digest_10 340 rfl rfl) rfl
theorem dX3_digest_341 : decode cX3_digest 341 = .ok (.iload 4, 2) := dz_21 (kBcX3_digest_10 341 rfl rfl) (kBcX3_digest_10 342 rfl rfl)
theorem dX3_digest_343 : decode cX3_digest 343 = .ok (.aaload, 1) := dz_50 (kBcX3_digest_10 343 rfl rfl)
theorem dX3_digest_344 : decode cX3_digest 344 = .ok (.aload_n 0, 1) := dz_42 (kBcX3_digest_10 344 rfl rfl)
theorem dX3_digest_345 : decode cX3_digest 345 = .ok (.getfield 15, 3) := dz_180 (kBcX3_digest_10 345 rfl rfl) (kBcX3_digest_10 346 rfl rfl) (kBcX3_digest_10 347 rfl rfl) rfl
theorem dX3_digest_348 : decode cX3_digest 348 = .ok (.iload_n 3, 1) := dz_29 (kBcX3_digest_10 348 rfl rfl)
theorem dX3_digest_349 : decode cX3_digest 349 = .ok (.iaload, 1) := dz_46 (kBcX3_digest_10 349 rfl rfl)
theorem dX3_digest_350 : decode cX3_digest 350 = .ok (.i2l, 1) := dz_133 (kBcX3_digest_10 350 rfl rfl)
theorem dX3_digest_351 : decode cX3_digest 351 = .ok (.invokestatic 82, 3) := dz_184 (kBcX3_digest_10 351 rfl rfl) (kBcX3_digest_11 352 rfl rfl) (kBcX3_digest_11 353 rfl rfl) rfl
theorem dX3_digest_354 : decode cX3_digest 354 = .ok (.invokestatic 78, 3) := dz_184 (kBcX3_digest_11 354 rfl rfl) (kBcX3_digest_11 355 rfl rfl) (kBcX3_digest_11 356 rfl rfl) rfl
theorem dX3_digest_357 : decode cX3_digest 357 = .ok (.i2l, 1) := dz_133 (kBcX3_digest_11 357 rfl rfl)
theorem dX3_digest_358 : decode cX3_digest 358 = .ok (.invokestatic 246, 3) := dz_184 (kBcX3_digest_11 358 rfl rfl) (kBcX3_digest_11 359 rfl rfl) (kBcX3_digest_11 360 rfl rfl) rfl
theorem dX3_digest_361 : decode cX3_digest 361 = .ok (.lstore_n 1, 1) := dz_64 (kBcX3_digest_11 361 rfl rfl)
theorem dX3_digest_362 : decode cX3_digest 362 = .ok (.iinc 4 1, 3) := dz_132 (kBcX3_digest_11 362 rfl rfl) (kBcX3_digest_11 363 rfl rfl) (kBcX3_digest_11 364 rfl rfl) rfl
theorem dX3_digest_365 : decode cX3_digest 365 = .ok (.goto (-35), 3) := dz_167 (kBcX3_digest_11 365 rfl rfl) (kBcX3_digest_11 366 rfl rfl) (kBcX3_digest_11 367 rfl rfl) rfl
theorem dX3_digest_368 : decode cX3_digest 368 = .ok (.iinc 3 1, 3) := dz_132 (kBcX3_digest_11 368 rfl rfl) (kBcX3_digest_11 369 rfl rfl) (kBcX3_digest_11 370 rfl rfl) rfl
theorem dX3_digest_371 : decode cX3_digest 371 = .ok (.goto (-49), 3) := dz_167 (kBcX3_digest_11 371 rfl rfl) (kBcX3_digest_11 372 rfl rfl) (kBcX3_digest_11 373 rfl rfl) rfl
theorem dX3_digest_374 : decode cX3_digest 374 = .ok (.iconst 0, 1) := dz_3 (kBcX3_digest_11 374 rfl rfl)
theorem dX3_digest_375 : decode cX3_digest 375 = .ok (.istore_n 3, 1) := dz_62 (kBcX3_digest_11 375 rfl rfl)
theorem dX3_digest_376 : decode cX3_digest 376 = .ok (.iload_n 3, 1) := dz_29 (kBcX3_digest_11 376 rfl rfl)
theorem dX3_digest_377 : decode cX3_digest 377 = .ok (.iconst 5, 1) := dz_8 (kBcX3_digest_11 377 rfl rfl)
theorem dX3_digest_378 : decode cX3_digest 378 = .ok (.if_icmp .ge 20, 3) := dz_162 (kBcX3_digest_11 378 rfl rfl) (kBcX3_digest_11 379 rfl rfl) (kBcX3_digest_11 380 rfl rfl) rfl
theorem dX3_digest_381 : decode cX3_digest 381 = .ok (.lload_n 1, 1) := dz_31 (kBcX3_digest_11 381 rfl rfl)
theorem dX3_digest_382 : decode cX3_digest 382 = .ok (.aload_n 0, 1) := dz_42 (kBcX3_digest_11 382 rfl rfl)
theorem dX3_digest_383 : decode cX3_digest 383 = .ok (.iload_n 3, 1) := dz_29 (kBcX3_digest_11 383 rfl rfl)
theorem dX3_digest_384 : decode cX3_digest 384 = .ok (.invokevirtual 238, 3) := dz_182 (kBcX3_digest_12 384 rfl rfl) (kBcX3_digest_12 385 rfl rfl) (kBcX3_digest_12 386 rfl rfl) rfl
theorem dX3_digest_387 : decode cX3_digest 387 = .ok (.i2l, 1) := dz_133 (kBcX3_digest_12 387 rfl rfl)
theorem dX3_digest_388 : decode cX3_digest 388 = .ok (.invokestatic 246, 3) := dz_184 (kBcX3_digest_12 388 rfl rfl) (kBcX3_digest_12 389 rfl rfl) (kBcX3_digest_12 390 rfl rfl) rfl
theorem dX3_digest_391 : decode cX3_digest 391 = .ok (.lstore_n 1, 1) := dz_64 (kBcX3_digest_12 391 rfl rfl)
theorem dX3_digest_392 : decode cX3_digest 392 = .ok (.iinc 3 1, 3) := dz_132 (kBcX3_digest_12 392 rfl rfl) (kBcX3_digest_12 393 rfl rfl) (kBcX3_digest_12 394 rfl rfl) rfl
theorem dX3_digest_395 : decode cX3_digest 395 = .ok (.goto (-19), 3) := dz_167 (kBcX3_digest_12 395 rfl rfl) (kBcX3_digest_12 396 rfl rfl) (kBcX3_digest_12 397 rfl rfl) rfl
theorem dX3_digest_398 : decode cX3_digest 398 = .ok (.lload_n 1, 1) := dz_31 (kBcX3_digest_12 398 rfl rfl)
theorem dX3_digest_399 : decode cX3_digest 399 = .ok (.lconst 1, 1) := dz_10 (kBcX3_digest_12 399 rfl rfl)
theorem dX3_digest_400 : decode cX3_digest 400 = .ok (.invokestatic 246, 3) := dz_184 (kBcX3_digest_12 400 rfl rfl) (kBcX3_digest_12 401 rfl rfl) (kBcX3_digest_12 402 rfl rfl) rfl
theorem dX3_digest_403 : decode cX3_digest 403 = .ok (.lreturn, 1) := dz_173 (kBcX3_digest_12 403 rfl rfl)
def kCcJ5_init_d00df_0 : List Nat := [42, 183, 0, 3, 178, 0, 18, 153, 0, 18, 42, 27, 188, 8, 181, 0, 15, 42, 3, 181, 0, 22, 167, 0, 16, 42, 27, 184, 0, 26, 181, 0]
def kCcJ5_init_d00df_1 : List Nat := [15, 42, 4, 181, 0, 22, 177]
def kRcJ5_init_d00df_2 : List Nat := []
def kRcJ5_init_d00df_1 : List Nat := kCcJ5_init_d00df_1 ++ kRcJ5_init_d00df_2
def kRcJ5_init_d00df_0 : List Nat := kCcJ5_init_d00df_0 ++ kRcJ5_init_d00df_1
theorem kRcJ5_init_d00df_eq : cJ5_init_d00df.data.toList.map UInt8.toNat = kRcJ5_init_d00df_0 := by decide +kernel
theorem katcJ5_init_d00df_0 (i : Nat) : (cJ5_init_d00df.data.toList.map UInt8.toNat)[0 + i]? = kRcJ5_init_d00df_0[i]? := by rw [kRcJ5_init_d00df_eq, Nat.zero_add]
theorem katcJ5_init_d00df_1 : ∀ i : Nat, (cJ5_init_d00df.data.toList.map UInt8.toNat)[32 + i]? = kRcJ5_init_d00df_1[i]? := kstep katcJ5_init_d00df_0 (C := kCcJ5_init_d00df_0) rfl rfl
theorem kBcJ5_init_d00df_0 {b : Nat} (p : Nat) (hp : Nat.ble 0 p = true) (h : kCcJ5_init_d00df_0[p - 0]? = some b) : kb cJ5_init_d00df p b := kin katcJ5_init_d00df_0 rfl hp h
theorem kBcJ5_init_d00df_1 {b : Nat} (p : Nat) (hp : Nat.ble 32 p = true) (h : kCcJ5_init_d00df_1[p - 32]? = some b) : kb cJ5_init_d00df p b := kin katcJ5_init_d00df_1 rfl hp h
theorem dJ5_init_d00df_0 : decode cJ5_init_d00df 0 = .ok (.aload_n 0, 1) := dz_42 (kBcJ5_init_d00df_0 0 rfl rfl)
theorem dJ5_init_d00df_1 : decode cJ5_init_d00df 1 = .ok (.invokespecial 3, 3) := dz_183 (kBcJ5_init_d00df_0 1 rfl rfl) (kBcJ5_init_d00df_0 2 rfl rfl) (kBcJ5_init_d00df_0 3 rfl rfl) rfl
theorem dJ5_init_d00df_4 : decode cJ5_init_d00df 4 = .ok (.getstatic 18, 3) := dz_178 (kBcJ5_init_d00df_0 4 rfl rfl) (kBcJ5_init_d00df_0 5 rfl rfl) (kBcJ5_init_d00df_0 6 rfl rfl) rfl
theorem dJ5_init_d00df_7 : decode cJ5_init_d00df 7 = .ok (.ifCond .eq 18, 3) := dz_153 (kBcJ5_init_d00df_0 7 rfl rfl) (kBcJ5_init_d00df_0 8 rfl rfl) (kBcJ5_init_d00df_0 9 rfl rfl) rfl
theorem dJ5_init_d00df_10 : decode cJ5_init_d00df 10 = .ok (.aload_n 0, 1) := dz_42 (kBcJ5_init_d00df_0 10 rfl rfl)
theorem dJ5_init_d00df_11 : decode cJ5_init_d00df 11 = .ok (.iload_n 1, 1) := dz_27 (kBcJ5_init_d00df_0 11 rfl rfl)
theorem dJ5_init_d00df_12 : decode cJ5_init_d00df 12 = .ok (.newarray .byte, 2) := by decide +kernel
theorem dJ5_init_d00df_14 : decode cJ5_init_d00df 14 = .ok (.putfield 15, 3) := dz_181 (kBcJ5_init_d00df_0 14 rfl rfl) (kBcJ5_init_d00df_0 15 rfl rfl) (kBcJ5_init_d00df_0 16 rfl rfl) rfl
theorem dJ5_init_d00df_17 : decode cJ5_init_d00df 17 = .ok (.aload_n 0, 1) := dz_42 (kBcJ5_init_d00df_0 17 rfl rfl)
theorem dJ5_init_d00df_18 : decode cJ5_init_d00df 18 = .ok (.iconst 0, 1) := dz_3 (kBcJ5_init_d00df_0 18 rfl rfl)
theorem dJ5_init_d00df_19 : decode cJ5_init_d00df 19 = .ok (.putfield 22, 3) := dz_181 (kBcJ5_init_d00df_0 19 rfl rfl) (kBcJ5_init_d00df_0 20 rfl rfl) (kBcJ5_init_d00df_0 21 rfl rfl) rfl
theorem dJ5_init_d00df_22 : decode cJ5_init_d00df 22 = .ok (.goto 16, 3) := dz_167 (kBcJ5_init_d00df_0 22 rfl rfl) (kBcJ5_init_d00df_0 23 rfl rfl) (kBcJ5_init_d00df_0 24 rfl rfl) rfl
theorem dJ5_init_d00df_25 : decode cJ5_init_d00df 25 = .ok (.aload_n 0, 1) := dz_42 (kBcJ5_init_d00df_0 25 rfl rfl)
theorem dJ5_init_d00df_26 : decode cJ5_init_d00df 26 = .ok (.iload_n 1, 1) := dz_27 (kBcJ5_init_d00df_0 26 rfl rfl)
theorem dJ5_init_d00df_27 : decode cJ5_init_d00df 27 = .ok (.invokestatic 26, 3) := dz_184 (kBcJ5_init_d00df_0 27 rfl rfl) (kBcJ5_init_d00df_0 28 rfl rfl) (kBcJ5_init_d00df_0 29 rfl rfl) rfl
theorem dJ5_init_d00df_30 : decode cJ5_init_d00df 30 = .ok (.putfield 15, 3) := dz_181 (kBcJ5_init_d00df_0 30 rfl rfl) (kBcJ5_init_d00df_0 31 rfl rfl) (kBcJ5_init_d00df_1 32 rfl rfl) rfl
theorem dJ5_init_d00df_33 : decode cJ5_init_d00df 33 = .ok (.aload_n 0, 1) := dz_42 (kBcJ5_init_d00df_1 33 rfl rfl)
theorem dJ5_init_d00df_34 : decode cJ5_init_d00df 34 = .ok (.iconst 1, 1) := dz_4 (kBcJ5_init_d00df_1 34 rfl rfl)
theorem dJ5_init_d00df_35 : decode cJ5_init_d00df 35 = .ok (.putfield 22, 3) := dz_181 (kBcJ5_init_d00df_1 35 rfl rfl) (kBcJ5_init_d00df_1 36 rfl rfl) (kBcJ5_init_d00df_1 37 rfl rfl) rfl
theorem dJ5_init_d00df_38 : decode cJ5_init_d00df 38 = .ok (.return_, 1) := dz_177 (kBcJ5_init_d00df_1 38 rfl rfl)
def kCcJ5_length_8abf5_0 : List Nat := [42, 180, 0, 79, 172]
theorem kRcJ5_length_8abf5_eq : cJ5_length_8abf5.data.toList.map UInt8.toNat = kCcJ5_length_8abf5_0 := by decide +kernel
theorem dJ5_length_8abf5_0 : decode cJ5_length_8abf5 0 = .ok (.aload_n 0, 1) := dz_42 (kin0 (p := 0) kRcJ5_length_8abf5_eq rfl)
theorem dJ5_length_8abf5_1 : decode cJ5_length_8abf5 1 = .ok (.getfield 79, 3) := dz_180 (kin0 (p := 1) kRcJ5_length_8abf5_eq rfl) (kin0 (p := 2) kRcJ5_length_8abf5_eq rfl) (kin0 (p := 3) kRcJ5_length_8abf5_eq rfl) rfl
theorem dJ5_length_8abf5_4 : decode cJ5_length_8abf5 4 = .ok (.ireturn, 1) := dz_172 (kin0 (p := 4) kRcJ5_length_8abf5_eq rfl)
def kCcJ5_ensureCapacityInternal_d00df_0 : List Nat := [42, 180, 0, 15, 190, 42, 180, 0, 22, 122, 61, 27, 28, 100, 158, 0, 24, 42, 42, 180, 0, 15, 42, 27, 182, 0, 104, 42, 180, 0, 22, 120]
def kCcJ5_ensureCapacityInternal_d00df_1 : List Nat := [184, 0, 108, 181, 0, 15, 177]
def kRcJ5_ensureCapacityInternal_d00df_2 : List Nat := []
def kRcJ5_ensureCapacityInternal_d00df_1 : List Nat := kCcJ5_ensureCapacityInternal_d00df_1 ++ kRcJ5_ensureCapacityInternal_d00df_2
def kRcJ5_ensureCapacityInternal_d00df_0 : List Nat := kCcJ5_ensureCapacityInternal_d00df_0 ++ kRcJ5_ensureCapacityInternal_d00df_1
theorem kRcJ5_ensureCapacityInternal_d00df_eq : cJ5_ensureCapacityInternal_d00df.data.toList.map UInt8.toNat = kRcJ5_ensureCapacityInternal_d00df_0 := by decide +kernel
theorem katcJ5_ensureCapacityInternal_d00df_0 (i : Nat) : (cJ5_ensureCapacityInternal_d00df.data.toList.map UInt8.toNat)[0 + i]? = kRcJ5_ensureCapacityInternal_d00df_0[i]? := by rw [kRcJ5_ensureCapacityInternal_d00df_eq, Nat.zero_add]
theorem katcJ5_ensureCapacityInternal_d00df_1 : ∀ i : Nat, (cJ5_ensureCapacityInternal_d00df.data.toList.map UInt8.toNat)[32 + i]? = kRcJ5_ensureCapacityInternal_d00df_1[i]? := kstep katcJ5_ensureCapacityInternal_d00df_0 (C := kCcJ5_ensureCapacityInternal_d00df_0) rfl rfl
theorem kBcJ5_ensureCapacityInternal_d00df_0 {b : Nat} (p : Nat) (hp : Nat.ble 0 p = true) (h : kCcJ5_ensureCapacityInternal_d00df_0[p - 0]? = some b) : kb cJ5_ensureCapacityInternal_d00df p b := kin katcJ5_ensureCapacityInternal_d00df_0 rfl hp h
theorem kBcJ5_ensureCapacityInternal_d00df_1 {b : Nat} (p : Nat) (hp : Nat.ble 32 p = true) (h : kCcJ5_ensureCapacityInternal_d00df_1[p - 32]? = some b) : kb cJ5_ensureCapacityInternal_d00df p b := kin katcJ5_ensureCapacityInternal_d00df_1 rfl hp h
theorem dJ5_ensureCapacityInternal_d00df_0 : decode cJ5_ensureCapacityInternal_d00df 0 = .ok (.aload_n 0, 1) := dz_42 (kBcJ5_ensureCapacityInternal_d00df_0 0 rfl rfl)
theorem dJ5_ensureCapacityInternal_d00df_1 : decode cJ5_ensureCapacityInternal_d00df 1 = .ok (.getfield 15, 3) := dz_180 (kBcJ5_ensureCapacityInternal_d00df_0 1 rfl rfl) (kBcJ5_ensureCapacityInternal_d00df_0 2 rfl rfl) (kBcJ5_ensureCapacityInternal_d00df_0 3 rfl rfl) rfl
theorem dJ5_ensureCapacityInternal_d00df_4 : decode cJ5_ensureCapacityInternal_d00df 4 = .ok (.arraylength, 1) := dz_190 (kBcJ5_ensureCapacityInternal_d00df_0 4 rfl rfl)
theorem dJ5_ensureCapacityInternal_d00df_5 : decode cJ5_ensureCapacityInternal_d00df 5 = .ok (.aload_n 0, 1) := dz_42 (kBcJ5_ensureCapacityInternal_d00df_0 5 rfl rfl)
theorem dJ5_ensureCapacityInternal_d00df_6 : decode cJ5_ensureCapacityInternal_d00df 6 = .ok (.getfield 22, 3) := dz_180 (kBcJ5_ensureCapacityInternal_d00df_0 6 rfl rfl) (kBcJ5_ensureCapacityInternal_d00df_0 7 rfl rfl) (kBcJ5_ensureCapacityInternal_d00df_0 8 rfl rfl) rfl
theorem dJ5_ensureCapacityInternal_d00df_9 : decode cJ5_ensureCapacityInternal_d00df 9 = .ok (.ishr, 1) := dz_122 (kBcJ5_ensureCapacityInternal_d00df_0 9 rfl rfl)
theorem dJ5_ensureCapacityInternal_d00df_10 : decode cJ5_ensureCapacityInternal_d00df 10 = .ok (.istore_n 2, 1) := dz_61 (kBcJ5_ensureCapacityInternal_d00df_0 10 rfl rfl)
theorem dJ5_ensureCapacityInternal_d00df_11 : decode cJ5_ensureCapacityInternal_d00df 11 = .ok (.iload_n 1, 1) := dz_27 (kBcJ5_ensureCapacityInternal_d00df_0 11 rfl rfl)
theorem dJ5_ensureCapacityInternal_d00df_12 : decode cJ5_ensureCapacityInternal_d00df 12 = .ok (.iload_n 2, 1) := dz_28 (kBcJ5_ensureCapacityInternal_d00df_0 12 rfl rfl)
theorem dJ5_ensureCapacityInternal_d00df_13 : decode cJ5_ensureCapacityInternal_d00df 13 = .ok (.isub, 1) := dz_100 (kBcJ5_ensureCapacityInternal_d00df_0 13 rfl rfl)
theorem dJ5_ensureCapacityInternal_d00df_14 : decode cJ5_ensureCapacityInternal_d00df 14 = .ok (.ifCond .le 24, 3) := dz_158 (kBcJ5_ensureCapacityInternal_d00df_0 14 rfl rfl) (kBcJ5_ensureCapacityInternal_d00df_0 15 rfl rfl) (kBcJ5_ensureCapacityInternal_d00df_0 16 rfl rfl) rfl
theorem dJ5_ensureCapacityInternal_d00df_17 : decode cJ5_ensureCapacityInternal_d00df 17 = .ok (.aload_n 0, 1) := dz_42 (kBcJ5_ensureCapacityInternal_d00df_0 17 rfl rfl)
theorem dJ5_ensureCapacityInternal_d00df_18 : decode cJ5_ensureCapacityInternal_d00df 18 = .ok (.aload_n 0, 1) := dz_42 (kBcJ5_ensureCapacityInternal_d00df_0 18 rfl rfl)
theorem dJ5_ensureCapacityInternal_d00df_19 : decode cJ5_ensureCapacityInternal_d00df 19 = .ok (.getfield 15, 3) := dz_180 (kBcJ5_ensureCapacityInternal_d00df_0 19 rfl rfl) (kBcJ5_ensureCapacityInternal_d00df_0 20 rfl rfl) (kBcJ5_ensureCapacityInternal_d00df_0 21 rfl rfl) rfl
theorem dJ5_ensureCapacityInternal_d00df_22 : decode cJ5_ensureCapacityInternal_d00df 22 = .ok (.aload_n 0, 1) := dz_42 (kBcJ5_ensureCapacityInternal_d00df_0 22 rfl rfl)
theorem dJ5_ensureCapacityInternal_d00df_23 : decode cJ5_ensureCapacityInternal_d00df 23 = .ok (.iload_n 1, 1) := dz_27 (kBcJ5_ensureCapacityInternal_d00df_0 23 rfl rfl)
theorem dJ5_ensureCapacityInternal_d00df_24 : decode cJ5_ensureCapacityInternal_d00df 24 = .ok (.invokevirtual 104, 3) := dz_182 (kBcJ5_ensureCapacityInternal_d00df_0 24 rfl rfl) (kBcJ5_ensureCapacityInternal_d00df_0 25 rfl rfl) (kBcJ5_ensureCapacityInternal_d00df_0 26 rfl rfl) rfl
theorem dJ5_ensureCapacityInternal_d00df_27 : decode cJ5_ensureCapacityInternal_d00df 27 = .ok (.aload_n 0, 1) := dz_42 (kBcJ5_ensureCapacityInternal_d00df_0 27 rfl rfl)
theorem dJ5_ensureCapacityInternal_d00df_28 : decode cJ5_ensureCapacityInternal_d00df 28 = .ok (.getfield 22, 3) := dz_180 (kBcJ5_ensureCapacityInternal_d00df_0 28 rfl rfl) (kBcJ5_ensureCapacityInternal_d00df_0 29 rfl rfl) (kBcJ5_ensureCapacityInternal_d00df_0 30 rfl rfl) rfl
theorem dJ5_ensureCapacityInternal_d00df_31 : decode cJ5_ensureCapacityInternal_d00df 31 = .ok (.ishl, 1) := dz_120 (kBcJ5_ensureCapacityInternal_d00df_0 31 rfl rfl)
theorem dJ5_ensureCapacityInternal_d00df_32 : decode cJ5_ensureCapacityInternal_d00df 32 = .ok (.invokestatic 108, 3) := dz_184 (kBcJ5_ensureCapacityInternal_d00df_1 32 rfl rfl) (kBcJ5_ensureCapacityInternal_d00df_1 33 rfl rfl) (kBcJ5_ensureCapacityInternal_d00df_1 34 rfl rfl) rfl
theorem dJ5_ensureCapacityInternal_d00df_35 : decode cJ5_ensureCapacityInternal_d00df 35 = .ok (.putfield 15, 3) := dz_181 (kBcJ5_ensureCapacityInternal_d00df_1 35 rfl rfl) (kBcJ5_ensureCapacityInternal_d00df_1 36 rfl rfl) (kBcJ5_ensureCapacityInternal_d00df_1 37 rfl rfl) rfl
theorem dJ5_ensureCapacityInternal_d00df_38 : decode cJ5_ensureCapacityInternal_d00df 38 = .ok (.return_, 1) := dz_177 (kBcJ5_ensureCapacityInternal_d00df_1 38 rfl rfl)
def kCcJ5_newCapacity_0f7a4_0 : List Nat := [42, 180, 0, 15, 190, 61, 27, 42, 180, 0, 22, 120, 62, 29, 28, 100, 54, 4, 28, 21, 4, 28, 5, 42, 180, 0, 22, 120, 96, 184, 0, 114]
def kCcJ5_newCapacity_0f7a4_1 : List Nat := [54, 5, 21, 5, 18, 39, 160, 0, 13, 187, 0, 120, 89, 18, 122, 183, 0, 124, 191, 21, 5, 42, 180, 0, 22, 122, 172]
def kRcJ5_newCapacity_0f7a4_2 : List Nat := []
def kRcJ5_newCapacity_0f7a4_1 : List Nat := kCcJ5_newCapacity_0f7a4_1 ++ kRcJ5_newCapacity_0f7a4_2
def kRcJ5_newCapacity_0f7a4_0 : List Nat := kCcJ5_newCapacity_0f7a4_0 ++ kRcJ5_newCapacity_0f7a4_1
theorem kRcJ5_newCapacity_0f7a4_eq : cJ5_newCapacity_0f7a4.data.toList.map UInt8.toNat = kRcJ5_newCapacity_0f7a4_0 := by decide +kernel
theorem katcJ5_newCapacity_0f7a4_0 (i : Nat) : (cJ5_newCapacity_0f7a4.data.toList.map UInt8.toNat)[0 + i]? = kRcJ5_newCapacity_0f7a4_0[i]? := by rw [kRcJ5_newCapacity_0f7a4_eq, Nat.zero_add]
theorem katcJ5_newCapacity_0f7a4_1 : ∀ i : Nat, (cJ5_newCapacity_0f7a4.data.toList.map UInt8.toNat)[32 + i]? = kRcJ5_newCapacity_0f7a4_1[i]? := kstep katcJ5_newCapacity_0f7a4_0 (C := kCcJ5_newCapacity_0f7a4_0) rfl rfl
theorem kBcJ5_newCapacity_0f7a4_0 {b : Nat} (p : Nat) (hp : Nat.ble 0 p = true) (h : kCcJ5_newCapacity_0f7a4_0[p - 0]? = some b) : kb cJ5_newCapacity_0f7a4 p b := kin katcJ5_newCapacity_0f7a4_0 rfl hp h
theorem kBcJ5_newCapacity_0f7a4_1 {b : Nat} (p : Nat) (hp : Nat.ble 32 p = true) (h : kCcJ5_newCapacity_0f7a4_1[p - 32]? = some b) : kb cJ5_newCapacity_0f7a4 p b := kin katcJ5_newCapacity_0f7a4_1 rfl hp h
theorem dJ5_newCapacity_0f7a4_0 : decode cJ5_newCapacity_0f7a4 0 = .ok (.aload_n 0, 1) := dz_42 (kBcJ5_newCapacity_0f7a4_0 0 rfl rfl)
theorem dJ5_newCapacity_0f7a4_1 : decode cJ5_newCapacity_0f7a4 1 = .ok (.getfield 15, 3) := dz_180 (kBcJ5_newCapacity_0f7a4_0 1 rfl rfl) (kBcJ5_newCapacity_0f7a4_0 2 rfl rfl) (kBcJ5_newCapacity_0f7a4_0 3 rfl rfl) rfl
theorem dJ5_newCapacity_0f7a4_4 : decode cJ5_newCapacity_0f7a4 4 = .ok (.arraylength, 1) := dz_190 (kBcJ5_newCapacity_0f7a4_0 4 rfl rfl)
theorem dJ5_newCapacity_0f7a4_5 : decode cJ5_newCapacity_0f7a4 5 = .ok (.istore_n 2, 1) := dz_61 (kBcJ5_newCapacity_0f7a4_0 5 rfl rfl)
theorem dJ5_newCapacity_0f7a4_6 : decode cJ5_newCapacity_0f7a4 6 = .ok (.iload_n 1, 1) := dz_27 (kBcJ5_newCapacity_0f7a4_0 6 rfl rfl)
theorem dJ5_newCapacity_0f7a4_7 : decode cJ5_newCapacity_0f7a4 7 = .ok (.aload_n 0, 1) := dz_42 (kBcJ5_newCapacity_0f7a4_0 7 rfl rfl)
theorem dJ5_newCapacity_0f7a4_8 : decode cJ5_newCapacity_0f7a4 8 = .ok (.getfield 22, 3) := dz_180 (kBcJ5_newCapacity_0f7a4_0 8 rfl rfl) (kBcJ5_newCapacity_0f7a4_0 9 rfl rfl) (kBcJ5_newCapacity_0f7a4_0 10 rfl rfl) rfl
theorem dJ5_newCapacity_0f7a4_11 : decode cJ5_newCapacity_0f7a4 11 = .ok (.ishl, 1) := dz_120 (kBcJ5_newCapacity_0f7a4_0 11 rfl rfl)
theorem dJ5_newCapacity_0f7a4_12 : decode cJ5_newCapacity_0f7a4 12 = .ok (.istore_n 3, 1) := dz_62 (kBcJ5_newCapacity_0f7a4_0 12 rfl rfl)
theorem dJ5_newCapacity_0f7a4_13 : decode cJ5_newCapacity_0f7a4 13 = .ok (.iload_n 3, 1) := dz_29 (kBcJ5_newCapacity_0f7a4_0 13 rfl rfl)
theorem dJ5_newCapacity_0f7a4_14 : decode cJ5_newCapacity_0f7a4 14 = .ok (.iload_n 2, 1) := dz_28 (kBcJ5_newCapacity_0f7a4_0 14 rfl rfl)
theorem dJ5_newCapacity_0f7a4_15 : decode cJ5_newCapacity_0f7a4 15 = .ok (.isub, 1) := dz_100 (kBcJ5_newCapacity_0f7a4_0 15 rfl rfl)
theorem dJ5_newCapacity_0f7a4_16 : decode cJ5_newCapacity_0f7a4 16 = .ok (.istore 4, 2) := dz_54 (kBcJ5_newCapacity_0f7a4_0 16 rfl rfl) (kBcJ5_newCapacity_0f7a4_0 17 rfl rfl)
theorem dJ5_newCapacity_0f7a4_18 : decode cJ5_newCapacity_0f7a4 18 = .ok (.iload_n 2, 1) := dz_28 (kBcJ5_newCapacity_0f7a4_0 18 rfl rfl)
theorem dJ5_newCapacity_0f7a4_19 : decode cJ5_newCapacity_0f7a4 19 = .ok (.iload 4, 2) := dz_21 (kBcJ5_newCapacity_0f7a4_0 19 rfl rfl) (kBcJ5_newCapacity_0f7a4_0 20 rfl rfl)
theorem dJ5_newCapacity_0f7a4_21 : decode cJ5_newCapacity_0f7a4 21 = .ok (.iload_n 2, 1) := dz_28 (kBcJ5_newCapacity_0f7a4_0 21 rfl rfl)
theorem dJ5_newCapacity_0f7a4_22 : decode cJ5_newCapacity_0f7a4 22 = .ok (.iconst 2, 1) := dz_5 (kBcJ5_newCapacity_0f7a4_0 22 rfl rfl)
theorem dJ5_newCapacity_0f7a4_23 : decode cJ5_newCapacity_0f7a4 23 = .ok (.aload_n 0, 1) := dz_42 (kBcJ5_newCapacity_0f7a4_0 23 rfl rfl)
theorem dJ5_newCapacity_0f7a4_24 : decode cJ5_newCapacity_0f7a4 24 = .ok (.getfield 22, 3) := dz_180 (kBcJ5_newCapacity_0f7a4_0 24 rfl rfl) (kBcJ5_newCapacity_0f7a4_0 25 rfl rfl) (kBcJ5_newCapacity_0f7a4_0 26 rfl rfl) rfl
theorem dJ5_newCapacity_0f7a4_27 : decode cJ5_newCapacity_0f7a4 27 = .ok (.ishl, 1) := dz_120 (kBcJ5_newCapacity_0f7a4_0 27 rfl rfl)
theorem dJ5_newCapacity_0f7a4_28 : decode cJ5_newCapacity_0f7a4 28 = .ok (.iadd, 1) := dz_96 (kBcJ5_newCapacity_0f7a4_0 28 rfl rfl)
theorem dJ5_newCapacity_0f7a4_29 : decode cJ5_newCapacity_0f7a4 29 = .ok (.invokestatic 114, 3) := dz_184 (kBcJ5_newCapacity_0f7a4_0 29 rfl rfl) (kBcJ5_newCapacity_0f7a4_0 30 rfl rfl) (kBcJ5_newCapacity_0f7a4_0 31 rfl rfl) rfl
theorem dJ5_newCapacity_0f7a4_32 : decode cJ5_newCapacity_0f7a4 32 = .ok (.istore 5, 2) := dz_54 (kBcJ5_newCapacity_0f7a4_1 32 rfl rfl) (kBcJ5_newCapacity_0f7a4_1 33 rfl rfl)
theorem dJ5_newCapacity_0f7a4_34 : decode cJ5_newCapacity_0f7a4 34 = .ok (.iload 5, 2) := dz_21 (kBcJ5_newCapacity_0f7a4_1 34 rfl rfl) (kBcJ5_newCapacity_0f7a4_1 35 rfl rfl)
theorem dJ5_newCapacity_0f7a4_36 : decode cJ5_newCapacity_0f7a4 36 = .ok (.ldc 39, 2) := dz_18 (kBcJ5_newCapacity_0f7a4_1 36 rfl rfl) (kBcJ5_newCapacity_0f7a4_1 37 rfl rfl)
theorem dJ5_newCapacity_0f7a4_38 : decode cJ5_newCapacity_0f7a4 38 = .ok (.if_icmp .ne 13, 3) := dz_160 (kBcJ5_newCapacity_0f7a4_1 38 rfl rfl) (kBcJ5_newCapacity_0f7a4_1 39 rfl rfl) (kBcJ5_newCapacity_0f7a4_1 40 rfl rfl) rfl
theorem dJ5_newCapacity_0f7a4_41 : decode cJ5_newCapacity_0f7a4 41 = .ok (.new 120, 3) := dz_187 (kBcJ5_newCapacity_0f7a4_1 41 rfl rfl) (kBcJ5_newCapacity_0f7a4_1 42 rfl rfl) (kBcJ5_newCapacity_0f7a4_1 43 rfl rfl) rfl
theorem dJ5_newCapacity_0f7a4_44 : decode cJ5_newCapacity_0f7a4 44 = .ok (.dup, 1) := dz_89 (kBcJ5_newCapacity_0f7a4_1 44 rfl rfl)
theorem dJ5_newCapacity_0f7a4_45 : decode cJ5_newCapacity_0f7a4 45 = .ok (.ldc 122, 2) := dz_18 (kBcJ5_newCapacity_0f7a4_1 45 rfl rfl) (kBcJ5_newCapacity_0f7a4_1 46 rfl rfl)
theorem dJ5_newCapacity_0f7a4_47 : decode cJ5_newCapacity_0f7a4 47 = .ok (.invokespecial 124, 3) := dz_183 (kBcJ5_newCapacity_0f7a4_1 47 rfl rfl) (kBcJ5_newCapacity_0f7a4_1 48 rfl rfl) (kBcJ5_newCapacity_0f7a4_1 49 rfl rfl) rfl
theorem dJ5_newCapacity_0f7a4_50 : decode cJ5_newCapacity_0f7a4 50 = .ok (.athrow, 1) := dz_191 (kBcJ5_newCapacity_0f7a4_1 50 rfl rfl)
theorem dJ5_newCapacity_0f7a4_51 : decode cJ5_newCapacity_0f7a4 51 = .ok (.iload 5, 2) := dz_21 (kBcJ5_newCapacity_0f7a4_1 51 rfl rfl) (kBcJ5_newCapacity_0f7a4_1 52 rfl rfl)
theorem dJ5_newCapacity_0f7a4_53 : decode cJ5_newCapacity_0f7a4 53 = .ok (.aload_n 0, 1) := dz_42 (kBcJ5_newCapacity_0f7a4_1 53 rfl rfl)
theorem dJ5_newCapacity_0f7a4_54 : decode cJ5_newCapacity_0f7a4 54 = .ok (.getfield 22, 3) := dz_180 (kBcJ5_newCapacity_0f7a4_1 54 rfl rfl) (kBcJ5_newCapacity_0f7a4_1 55 rfl rfl) (kBcJ5_newCapacity_0f7a4_1 56 rfl rfl) rfl
theorem dJ5_newCapacity_0f7a4_57 : decode cJ5_newCapacity_0f7a4 57 = .ok (.ishr, 1) := dz_122 (kBcJ5_newCapacity_0f7a4_1 57 rfl rfl)
theorem dJ5_newCapacity_0f7a4_58 : decode cJ5_newCapacity_0f7a4 58 = .ok (.ireturn, 1) := dz_172 (kBcJ5_newCapacity_0f7a4_1 58 rfl rfl)
def kCcJ5_inflate_da8c8_0 : List Nat := [42, 182, 0, 83, 154, 0, 4, 177, 42, 180, 0, 15, 190, 184, 0, 26, 76, 42, 180, 0, 15, 3, 43, 3, 42, 180, 0, 79, 184, 0, 125, 42]
def kCcJ5_inflate_da8c8_1 : List Nat := [43, 181, 0, 15, 42, 4, 181, 0, 22, 177]
def kRcJ5_inflate_da8c8_2 : List Nat := []
def kRcJ5_inflate_da8c8_1 : List Nat := kCcJ5_inflate_da8c8_1 ++ kRcJ5_inflate_da8c8_2
def kRcJ5_inflate_da8c8_0 : List Nat := kCcJ5_inflate_da8c8_0 ++ kRcJ5_inflate_da8c8_1
theorem kRcJ5_inflate_da8c8_eq : cJ5_inflate_da8c8.data.toList.map UInt8.toNat = kRcJ5_inflate_da8c8_0 := by decide +kernel
theorem katcJ5_inflate_da8c8_0 (i : Nat) : (cJ5_inflate_da8c8.data.toList.map UInt8.toNat)[0 + i]? = kRcJ5_inflate_da8c8_0[i]? := by rw [kRcJ5_inflate_da8c8_eq, Nat.zero_add]
theorem katcJ5_inflate_da8c8_1 : ∀ i : Nat, (cJ5_inflate_da8c8.data.toList.map UInt8.toNat)[32 + i]? = kRcJ5_inflate_da8c8_1[i]? := kstep katcJ5_inflate_da8c8_0 (C := kCcJ5_inflate_da8c8_0) rfl rfl
theorem kBcJ5_inflate_da8c8_0 {b : Nat} (p : Nat) (hp : Nat.ble 0 p = true) (h : kCcJ5_inflate_da8c8_0[p - 0]? = some b) : kb cJ5_inflate_da8c8 p b := kin katcJ5_inflate_da8c8_0 rfl hp h
theorem kBcJ5_inflate_da8c8_1 {b : Nat} (p : Nat) (hp : Nat.ble 32 p = true) (h : kCcJ5_inflate_da8c8_1[p - 32]? = some b) : kb cJ5_inflate_da8c8 p b := kin katcJ5_inflate_da8c8_1 rfl hp h
theorem dJ5_inflate_da8c8_0 : decode cJ5_inflate_da8c8 0 = .ok (.aload_n 0, 1) := dz_42 (kBcJ5_inflate_da8c8_0 0 rfl rfl)
theorem dJ5_inflate_da8c8_1 : decode cJ5_inflate_da8c8 1 = .ok (.invokevirtual 83, 3) := dz_182 (kBcJ5_inflate_da8c8_0 1 rfl rfl) (kBcJ5_inflate_da8c8_0 2 rfl rfl) (kBcJ5_inflate_da8c8_0 3 rfl rfl) rfl
theorem dJ5_inflate_da8c8_4 : decode cJ5_inflate_da8c8 4 = .ok (.ifCond .ne 4, 3) := dz_154 (kBcJ5_inflate_da8c8_0 4 rfl rfl) (kBcJ5_inflate_da8c8_0 5 rfl rfl) (kBcJ5_inflate_da8c8_0 6 rfl rfl) rfl
theorem dJ5_inflate_da8c8_7 : decode cJ5_inflate_da8c8 7 = .ok (.return_, 1) := dz_177 (kBcJ5_inflate_da8c8_0 7 rfl rfl)
theorem dJ5_inflate_da8c8_8 : decode cJ5_inflate_da8c8 8 = .ok (.aload_n 0, 1) := dz_42 (kBcJ5_inflate_da8c8_0 8 rfl rfl)
theorem dJ5_inflate_da8c8_9 : decode cJ5_inflate_da8c8 9 = .ok (.getfield 15, 3) := dz_180 (kBcJ5_inflate_da8c8_0 9 rfl rfl) (kBcJ5_inflate_da8c8_0 10 rfl rfl) (kBcJ5_inflate_da8c8_0 11 rfl rfl) rfl
theorem dJ5_inflate_da8c8_12 : decode cJ5_inflate_da8c8 12 = .ok (.arraylength, 1) := dz_190 (kBcJ5_inflate_da8c8_0 12 rfl rfl)
theorem dJ5_inflate_da8c8_13 : decode cJ5_inflate_da8c8 13 = .ok (.invokestatic 26, 3) := dz_184 (kBcJ5_inflate_da8c8_0 13 rfl rfl) (kBcJ5_inflate_da8c8_0 14 rfl rfl) (kBcJ5_inflate_da8c8_0 15 rfl rfl) rfl
theorem dJ5_inflate_da8c8_16 : decode cJ5_inflate_da8c8 16 = .ok (.astore_n 1, 1) := dz_76 (kBcJ5_inflate_da8c8_0 16 rfl rfl)
theorem dJ5_inflate_da8c8_17 : decode cJ5_inflate_da8c8 17 = .ok (.aload_n 0, 1) := dz_42 (kBcJ5_inflate_da8c8_0 17 rfl rfl)
theorem dJ5_inflate_da8c8_18 : decode cJ5_inflate_da8c8 18 = .ok (.getfield 15, 3) := dz_180 (kBcJ5_inflate_da8c8_0 18 rfl rfl) (kBcJ5_inflate_da8c8_0 19 rfl rfl) (kBcJ5_inflate_da8c8_0 20 rfl rfl) rfl
theorem dJ5_inflate_da8c8_21 : decode cJ5_inflate_da8c8 21 = .ok (.iconst 0, 1) := dz_3 (kBcJ5_inflate_da8c8_0 21 rfl rfl)
theorem dJ5_inflate_da8c8_22 : decode cJ5_inflate_da8c8 22 = .ok (.aload_n 1, 1) := dz_43 (kBcJ5_inflate_da8c8_0 22 rfl rfl)
theorem dJ5_inflate_da8c8_23 : decode cJ5_inflate_da8c8 23 = .ok (.iconst 0, 1) := dz_3 (kBcJ5_inflate_da8c8_0 23 rfl rfl)
theorem dJ5_inflate_da8c8_24 : decode cJ5_inflate_da8c8 24 = .ok (.aload_n 0, 1) := dz_42 (kBcJ5_inflate_da8c8_0 24 rfl rfl)
theorem dJ5_inflate_da8c8_25 : decode cJ5_inflate_da8c8 25 = .ok (.getfield 79, 3) := dz_180 (kBcJ5_inflate_da8c8_0 25 rfl rfl) (kBcJ5_inflate_da8c8_0 26 rfl rfl) (kBcJ5_inflate_da8c8_0 27 rfl rfl) rfl
theorem dJ5_inflate_da8c8_28 : decode cJ5_inflate_da8c8 28 = .ok (.invokestatic 125, 3) := dz_184 (kBcJ5_inflate_da8c8_0 28 rfl rfl) (kBcJ5_inflate_da8c8_0 29 rfl rfl) (kBcJ5_inflate_da8c8_0 30 rfl rfl) rfl
theorem dJ5_inflate_da8c8_31 : decode cJ5_inflate_da8c8 31 = .ok (.aload_n 0, 1) := dz_42 (kBcJ5_inflate_da8c8_0 31 rfl rfl)
theorem dJ5_inflate_da8c8_32 : decode cJ5_inflate_da8c8 32 = .ok (.aload_n 1, 1) := dz_43 (kBcJ5_inflate_da8c8_1 32 rfl rfl)
theorem dJ5_inflate_da8c8_33 : decode cJ5_inflate_da8c8 33 = .ok (.putfield 15, 3) := dz_181 (kBcJ5_inflate_da8c8_1 33 rfl rfl) (kBcJ5_inflate_da8c8_1 34 rfl rfl) (kBcJ5_inflate_da8c8_1 35 rfl rfl) rfl
theorem dJ5_inflate_da8c8_36 : decode cJ5_inflate_da8c8 36 = .ok (.aload_n 0, 1) := dz_42 (kBcJ5_inflate_da8c8_1 36 rfl rfl)
theorem dJ5_inflate_da8c8_37 : decode cJ5_inflate_da8c8 37 = .ok (.iconst 1, 1) := dz_4 (kBcJ5_inflate_da8c8_1 37 rfl rfl)
theorem dJ5_inflate_da8c8_38 : decode cJ5_inflate_da8c8 38 = .ok (.putfield 22, 3) := dz_181 (kBcJ5_inflate_da8c8_1 38 rfl rfl) (kBcJ5_inflate_da8c8_1 39 rfl rfl) (kBcJ5_inflate_da8c8_1 40 rfl rfl) rfl
theorem dJ5_inflate_da8c8_41 : decode cJ5_inflate_da8c8 41 = .ok (.return_, 1) := dz_177 (kBcJ5_inflate_da8c8_1 41 rfl rfl)
