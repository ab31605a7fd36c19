def kCcJ5_setLength_d00df_0 : List Nat := [27, 156, 0, 12, 187, 0, 129, 89, 27, 183, 0, 131, 191, 42, 27, 182, 0, 100, 42, 180, 0, 79, 27, 162, 0, 40, 42, 182, 0, 83, 153, 0]
def kCcJ5_setLength_d00df_1 : List Nat := [18, 42, 180, 0, 15, 42, 180, 0, 79, 27, 184, 0, 133, 167, 0, 31, 42, 180, 0, 15, 42, 180, 0, 79, 27, 184, 0, 137, 167, 0, 16, 42]
def kCcJ5_setLength_d00df_2 : List Nat := [180, 0, 79, 27, 164, 0, 8, 42, 4, 181, 0, 73, 42, 27, 181, 0, 79, 177]
def kRcJ5_setLength_d00df_3 : List Nat := []
def kRcJ5_setLength_d00df_2 : List Nat := kCcJ5_setLength_d00df_2 ++ kRcJ5_setLength_d00df_3
def kRcJ5_setLength_d00df_1 : List Nat := kCcJ5_setLength_d00df_1 ++ kRcJ5_setLength_d00df_2
def kRcJ5_setLength_d00df_0 : List Nat := kCcJ5_setLength_d00df_0 ++ kRcJ5_setLength_d00df_1
theorem kRcJ5_setLength_d00df_eq : cJ5_setLength_d00df.data.toList.map UInt8.toNat = kRcJ5_setLength_d00df_0 := by decide +kernel
theorem katcJ5_setLength_d00df_0 (i : Nat) : (cJ5_setLength_d00df.data.toList.map UInt8.toNat)[0 + i]? = kRcJ5_setLength_d00df_0[i]? := by rw [kRcJ5_setLength_d00df_eq, Nat.zero_add]
theorem katcJ5_setLength_d00df_1 : ∀ i : Nat, (cJ5_setLength_d00df.data.toList.map UInt8.toNat)[32 + i]? = kRcJ5_setLength_d00df_1[i]? := kstep katcJ5_setLength_d00df_0 (C := kCcJ5_setLength_d00df_0) rfl rfl
theorem katcJ5_setLength_d00df_2 : ∀ i : Nat, (cJ5_setLength_d00df.data.toList.map UInt8.toNat)[64 + i]? = kRcJ5_setLength_d00df_2[i]? := kstep katcJ5_setLength_d00df_1 (C := kCcJ5_setLength_d00df_1) rfl rfl
theorem kBcJ5_setLength_d00df_0 {b : Nat} (p : Nat) (hp : Nat.ble 0 p = true) (h : kCcJ5_setLength_d00df_0[p - 0]? = some b) : kb cJ5_setLength_d00df p b := kin katcJ5_setLength_d00df_0 rfl hp h
theorem kBcJ5_setLength_d00df_1 {b : Nat} (p : Nat) (hp : Nat.ble 32 p = true) (h : kCcJ5_setLength_d00df_1[p - 32]? = some b) : kb cJ5_setLength_d00df p b := kin katcJ5_setLength_d00df_1 rfl hp h
theorem kBcJ5_setLength_d00df_2 {b : Nat} (p : Nat) (hp : Nat.ble 64 p = true) (h : kCcJ5_setLength_d00df_2[p - 64]? = some b) : kb cJ5_setLength_d00df p b := kin katcJ5_setLength_d00df_2 rfl hp h
theorem dJ5_setLength_d00df_0 : decode cJ5_setLength_d00df 0 = .ok (.iload_n 1, 1) := dz_27 (kBcJ5_setLength_d00df_0 0 rfl rfl)
theorem dJ5_setLength_d00df_1 : decode cJ5_setLength_d00df 1 = .ok (.ifCond .ge 12, 3) := dz_156 (kBcJ5_setLength_d00df_0 1 rfl rfl) (kBcJ5_setLength_d00df_0 2 rfl rfl) (kBcJ5_setLength_d00df_0 3 rfl rfl) rfl
theorem dJ5_setLength_d00df_4 : decode cJ5_setLength_d00df 4 = .ok (.new 129, 3) := dz_187 (kBcJ5_setLength_d00df_0 4 rfl rfl) (kBcJ5_setLength_d00df_0 5 rfl rfl) (kBcJ5_setLength_d00df_0 6 rfl rfl) rfl
theorem dJ5_setLength_d00df_7 : decode cJ5_setLength_d00df 7 = .ok (.dup, 1) := dz_89 (kBcJ5_setLength_d00df_0 7 rfl rfl)
theorem dJ5_setLength_d00df_8 : decode cJ5_setLength_d00df 8 = .ok (.iload_n 1, 1) := dz_27 (kBcJ5_setLength_d00df_0 8 rfl rfl)
theorem dJ5_setLength_d00df_9 : decode cJ5_setLength_d00df 9 = .ok (.invokespecial 131, 3) := dz_183 (kBcJ5_setLength_d00df_0 9 rfl rfl) (kBcJ5_setLength_d00df_0 10 rfl rfl) (kBcJ5_setLength_d00df_0 11 rfl rfl) rfl
theorem dJ5_setLength_d00df_12 : decode cJ5_setLength_d00df 12 = .ok (.athrow, 1) := dz_191 (kBcJ5_setLength_d00df_0 12 rfl rfl)
theorem dJ5_setLength_d00df_13 : decode cJ5_setLength_d00df 13 = .ok (.aload_n 0, 1) := dz_42 (kBcJ5_setLength_d00df_0 13 rfl rfl)
theorem dJ5_setLength_d00df_14 : decode cJ5_setLength_d00df 14 = .ok (.iload_n 1, 1) := dz_27 (kBcJ5_setLength_d00df_0 14 rfl rfl)
theorem dJ5_setLength_d00df_15 : decode cJ5_setLength_d00df 15 = .ok (.invokevirtual 100, 3) := dz_182 (kBcJ5_setLength_d00df_0 15 rfl rfl) (kBcJ5_setLength_d00df_0 16 rfl rfl) (kBcJ5_setLength_d00df_0 17 rfl rfl) rfl
theorem dJ5_setLength_d00df_18 : decode cJ5_setLength_d00df 18 = .ok (.aload_n 0, 1) := dz_42 (kBcJ5_setLength_d00df_0 18 rfl rfl)
theorem dJ5_setLength_d00df_19 : decode cJ5_setLength_d00df 19 = .ok (.getfield 79, 3) := dz_180 (kBcJ5_setLength_d00df_0 19 rfl rfl) (kBcJ5_setLength_d00df_0 20 rfl rfl) (kBcJ5_setLength_d00df_0 21 rfl rfl) rfl
theorem dJ5_setLength_d00df_22 : decode cJ5_setLength_d00df 22 = .ok (.iload_n 1, 1) := dz_27 (kBcJ5_setLength_d00df_0 22 rfl rfl)
theorem dJ5_setLength_d00df_23 : decode cJ5_setLength_d00df 23 = .ok (.if_icmp .ge 40, 3) := dz_162 (kBcJ5_setLength_d00df_0 23 rfl rfl) (kBcJ5_setLength_d00df_0 24 rfl rfl) (kBcJ5_setLength_d00df_0 25 rfl rfl) rfl
theorem dJ5_setLength_d00df_26 : decode cJ5_setLength_d00df 26 = .ok (.aload_n 0, 1) := dz_42 (kBcJ5_setLength_d00df_0 26 rfl rfl)
theorem dJ5_setLength_d00df_27 : decode cJ5_setLength_d00df 27 = .ok (.invokevirtual 83, 3) := dz_182 (kBcJ5_setLength_d00df_0 27 rfl rfl) (kBcJ5_setLength_d00df_0 28 rfl rfl) (kBcJ5_setLength_d00df_0 29 rfl rfl) rfl
theorem dJ5_setLength_d00df_30 : decode cJ5_setLength_d00df 30 = .ok (.ifCond .eq 18, 3) := dz_153 (kBcJ5_setLength_d00df_0 30 rfl rfl) (kBcJ5_setLength_d00df_0 31 rfl rfl) (kBcJ5_setLength_d00df_1 32 rfl rfl) rfl
theorem dJ5_setLength_d00df_33 : decode cJ5_setLength_d00df 33 = .ok (.aload_n 0, 1) := dz_42 (kBcJ5_setLength_d00df_1 33 rfl rfl)
theorem dJ5_setLength_d00df_34 : decode cJ5_setLength_d00df 34 = .ok (.getfield 15, 3) := dz_180 (kBcJ5_setLength_d00df_1 34 rfl rfl) (kBcJ5_setLength_d00df_1 35 rfl rfl) (kBcJ5_setLength_d00df_1 36 rfl rfl) rfl
theorem dJ5_setLength_d00df_37 : decode cJ5_setLength_d00df 37 = .ok (.aload_n 0, 1) := dz_42 (kBcJ5_setLength_d00df_1 37 rfl rfl)
theorem dJ5_setLength_d00df_38 : decode cJ5_setLength_d00df 38 = .ok (.getfield 79, 3) := dz_180 (kBcJ5_setLength_d00df_1 38 rfl rfl) (kBcJ5_setLength_d00df_1 39 rfl rfl) (kBcJ5_setLength_d00df_1 40 rfl rfl) rfl
theorem dJ5_setLength_d00df_41 : decode cJ5_setLength_d00df 41 = .ok (.iload_n 1, 1) := dz_27 (kBcJ5_setLength_d00df_1 41 rfl rfl)
theorem dJ5_setLength_d00df_42 : decode cJ5_setLength_d00df 42 = .ok (.invokestatic 133, 3) := dz_184 (kBcJ5_setLength_d00df_1 42 rfl rfl) (kBcJ5_setLength_d00df_1 43 rfl rfl) (kBcJ5_setLength_d00df_1 44 rfl rfl) rfl
theorem dJ5_setLength_d00df_45 : decode cJ5_setLength_d00df 45 = .ok (.goto 31, 3) := dz_167 (kBcJ5_setLength_d00df_1 45 rfl rfl) (kBcJ5_setLength_d00df_1 46 rfl rfl) (kBcJ5_setLength_d00df_1 47 rfl rfl) rfl
theorem dJ5_setLength_d00df_48 : decode cJ5_setLength_d00df 48 = .ok (.aload_n 0, 1) := dz_42 (kBcJ5_setLength_d00df_1 48 rfl rfl)
theorem dJ5_setLength_d00df_49 : decode cJ5_setLength_d00df 49 = .ok (.getfield 15, 3) := dz_180 (kBcJ5_setLength_d00df_1 49 rfl rfl) (kBcJ5_setLength_d00df_1 50 rfl rfl) (kBcJ5_setLength_d00df_1 51 rfl rfl) rfl
theorem dJ5_setLength_d00df_52 : decode cJ5_setLength_d00df 52 = .ok (.aload_n 0, 1) := dz_42 (kBcJ5_setLength_d00df_1 52 rfl rfl)
theorem dJ5_setLength_d00df_53 : decode cJ5_setLength_d00df 53 = .ok (.getfield 79, 3) := dz_180 (kBcJ5_setLength_d00df_1 53 rfl rfl) (kBcJ5_setLength_d00df_1 54 rfl rfl) (kBcJ5_setLength_d00df_1 55 rfl rfl) rfl
theorem dJ5_setLength_d00df_56 : decode cJ5_setLength_d00df 56 = .ok (.iload_n 1, 1) := dz_27 (kBcJ5_setLength_d00df_1 56 rfl rfl)
theorem dJ5_setLength_d00df_57 : decode cJ5_setLength_d00df 57 = .ok (.invokestatic 137, 3) := dz_184 (kBcJ5_setLength_d00df_1 57 rfl rfl) (kBcJ5_setLength_d00df_1 58 rfl rfl) (kBcJ5_setLength_d00df_1 59 rfl rfl) rfl
theorem dJ5_setLength_d00df_60 : decode cJ5_setLength_d00df 60 = .ok (.goto 16, 3) := dz_167 (kBcJ5_setLength_d00df_1 60 rfl rfl) (kBcJ5_setLength_d00df_1 61 rfl rfl) (kBcJ5_setLength_d00df_1 62 rfl rfl) rfl
theorem dJ5_setLength_d00df_63 : decode cJ5_setLength_d00df 63 = .ok (.aload_n 0, 1) := dz_42 (kBcJ5_setLength_d00df_1 63 rfl rfl)
theorem dJ5_setLength_d00df_64 : decode cJ5_setLength_d00df 64 = .ok (.getfield 79, 3) := dz_180 (kBcJ5_setLength_d00df_2 64 rfl rfl) (kBcJ5_setLength_d00df_2 65 rfl rfl) (kBcJ5_setLength_d00df_2 66 rfl rfl) rfl
theorem dJ5_setLength_d00df_67 : decode cJ5_setLength_d00df 67 = .ok (.iload_n 1, 1) := dz_27 (kBcJ5_setLength_d00df_2 67 rfl rfl)
theorem dJ5_setLength_d00df_68 : decode cJ5_setLength_d00df 68 = .ok (.if_icmp .le 8, 3) := dz_164 (kBcJ5_setLength_d00df_2 68 rfl rfl) (kBcJ5_setLength_d00df_2 69 rfl rfl) (kBcJ5_setLength_d00df_2 70 rfl rfl) rfl
theorem dJ5_setLength_d00df_71 : decode cJ5_setLength_d00df 71 = .ok (.aload_n 0, 1) := dz_42 (kBcJ5_setLength_d00df_2 71 rfl rfl)
theorem dJ5_setLength_d00df_72 : decode cJ5_setLength_d00df 72 = .ok (.iconst 1, 1) := dz_4 (kBcJ5_setLength_d00df_2 72 rfl rfl)
theorem dJ5_setLength_d00df_73 : decode cJ5_setLength_d00df 73 = .ok (.putfield 73, 3) := dz_181 (kBcJ5_setLength_d00df_2 73 rfl rfl) (kBcJ5_setLength_d00df_2 74 rfl rfl) (kBcJ5_setLength_d00df_2 75 rfl rfl) rfl
theorem dJ5_setLength_d00df_76 : decode cJ5_setLength_d00df 76 = .ok (.aload_n 0, 1) := dz_42 (kBcJ5_setLength_d00df_2 76 rfl rfl)
theorem dJ5_setLength_d00df_77 : decode cJ5_setLength_d00df 77 = .ok (.iload_n 1, 1) := dz_27 (kBcJ5_setLength_d00df_2 77 rfl rfl)
theorem dJ5_setLength_d00df_78 : decode cJ5_setLength_d00df 78 = .ok (.putfield 79, 3) := dz_181 (kBcJ5_setLength_d00df_2 78 rfl rfl) (kBcJ5_setLength_d00df_2 79 rfl rfl) (kBcJ5_setLength_d00df_2 80 rfl rfl) rfl
theorem dJ5_setLength_d00df_81 : decode cJ5_setLength_d00df 81 = .ok (.return_, 1) := dz_177 (kBcJ5_setLength_d00df_2 81 rfl rfl)
def kCcJ5_charAt_5068e_0 : List Nat := [42, 180, 0, 22, 61, 42, 180, 0, 15, 78, 42, 180, 0, 79, 45, 190, 28, 122, 184, 0, 138, 54, 4, 27, 21, 4, 184, 0, 144, 28, 154, 0]
def kCcJ5_charAt_5068e_1 : List Nat := [12, 45, 27, 51, 17, 0, 255, 126, 146, 172, 45, 27, 184, 0, 148, 172]
def kRcJ5_charAt_5068e_2 : List Nat := []
def kRcJ5_charAt_5068e_1 : List Nat := kCcJ5_charAt_5068e_1 ++ kRcJ5_charAt_5068e_2
def kRcJ5_charAt_5068e_0 : List Nat := kCcJ5_charAt_5068e_0 ++ kRcJ5_charAt_5068e_1
theorem kRcJ5_charAt_5068e_eq : cJ5_charAt_5068e.data.toList.map UInt8.toNat = kRcJ5_charAt_5068e_0 := by decide +kernel
theorem katcJ5_charAt_5068e_0 (i : Nat) : (cJ5_charAt_5068e.data.toList.map UInt8.toNat)[0 + i]? = kRcJ5_charAt_5068e_0[i]? := by rw [kRcJ5_charAt_5068e_eq, Nat.zero_add]
theorem katcJ5_charAt_5068e_1 : ∀ i : Nat, (cJ5_charAt_5068e.data.toList.map UInt8.toNat)[32 + i]? = kRcJ5_charAt_5068e_1[i]? := kstep katcJ5_charAt_5068e_0 (C := kCcJ5_charAt_5068e_0) rfl rfl
theorem kBcJ5_charAt_5068e_0 {b : Nat} (p : Nat) (hp : Nat.ble 0 p = true) (h : kCcJ5_charAt_5068e_0[p - 0]? = some b) : kb cJ5_charAt_5068e p b := kin katcJ5_charAt_5068e_0 rfl hp h
theorem kBcJ5_charAt_5068e_1 {b : Nat} (p : Nat) (hp : Nat.ble 32 p = true) (h : kCcJ5_charAt_5068e_1[p - 32]? = some b) : kb cJ5_charAt_5068e p b := kin katcJ5_charAt_5068e_1 rfl hp h
theorem dJ5_charAt_5068e_0 : decode cJ5_charAt_5068e 0 = .ok (.aload_n 0, 1) := dz_42 (kBcJ5_charAt_5068e_0 0 rfl rfl)
theorem dJ5_charAt_5068e_1 : decode cJ5_charAt_5068e 1 = .ok (.getfield 22, 3) := dz_180 (kBcJ5_charAt_5068e_0 1 rfl rfl) (kBcJ5_charAt_5068e_0 2 rfl rfl) (kBcJ5_charAt_5068e_0 3 rfl rfl) rfl
theorem dJ5_charAt_5068e_4 : decode cJ5_charAt_5068e 4 = .ok (.istore_n 2, 1) := dz_61 (kBcJ5_charAt_5068e_0 4 rfl rfl)
theorem dJ5_charAt_5068e_5 : decode cJ5_charAt_5068e 5 = .ok (.aload_n 0, 1) := dz_42 (kBcJ5_charAt_5068e_0 5 rfl rfl)
theorem dJ5_charAt_5068e_6 : decode cJ5_charAt_5068e 6 = .ok (.getfield 15, 3) := dz_180 (kBcJ5_charAt_5068e_0 6 rfl rfl) (kBcJ5_charAt_5068e_0 7 rfl rfl) (kBcJ5_charAt_5068e_0 8 rfl rfl) rfl
theorem dJ5_charAt_5068e_9 : decode cJ5_charAt_5068e 9 = .ok (.astore_n 3, 1) := dz_78 (kBcJ5_charAt_5068e_0 9 rfl rfl)
theorem dJ5_charAt_5068e_10 : decode cJ5_charAt_5068e 10 = .ok (.aload_n 0, 1) := dz_42 (kBcJ5_charAt_5068e_0 10 rfl rfl)
theorem dJ5_charAt_5068e_11 : decode cJ5_charAt_5068e 11 = .ok (.getfield 79, 3) := dz_180 (kBcJ5_charAt_5068e_0 11 rfl rfl) (kBcJ5_charAt_5068e_0 12 rfl rfl) (kBcJ5_charAt_5068e_0 13 rfl rfl) rfl
theorem dJ5_charAt_5068e_14 : decode cJ5_charAt_5068e 14 = .ok (.aload_n 3, 1) := dz_45 (kBcJ5_charAt_5068e_0 14 rfl rfl)
theorem dJ5_charAt_5068e_15 : decode cJ5_charAt_5068e 15 = .ok (.arraylength, 1) := dz_190 (kBcJ5_charAt_5068e_0 15 rfl rfl)
theorem dJ5_charAt_5068e_16 : decode cJ5_charAt_5068e 16 = .ok (.iload_n 2, 1) := dz_28 (kBcJ5_charAt_5068e_0 16 rfl rfl)
theorem dJ5_charAt_5068e_17 : decode cJ5_charAt_5068e 17 = .ok (.ishr, 1) := dz_122 (kBcJ5_charAt_5068e_0 17 rfl rfl)
theorem dJ5_charAt_5068e_18 : decode cJ5_charAt_5068e 18 = .ok (.invokestatic 138, 3) := dz_184 (kBcJ5_charAt_5068e_0 18 rfl rfl) (kBcJ5_charAt_5068e_0 19 rfl rfl) (kBcJ5_charAt_5068e_0 20 rfl rfl) rfl
theorem dJ5_charAt_5068e_21 : decode cJ5_charAt_5068e 21 = .ok (.istore 4, 2) := dz_54 (kBcJ5_charAt_5068e_0 21 rfl rfl) (kBcJ5_charAt_5068e_0 22 rfl rfl)
theorem dJ5_charAt_5068e_23 : decode cJ5_charAt_5068e 23 = .ok (.iload_n 1, 1) := dz_27 (kBcJ5_charAt_5068e_0 23 rfl rfl)
theorem dJ5_charAt_5068e_24 : decode cJ5_charAt_5068e 24 = .ok (.iload 4, 2) := dz_21 (kBcJ5_charAt_5068e_0 24 rfl rfl) (kBcJ5_charAt_5068e_0 25 rfl rfl)
theorem dJ5_charAt_5068e_26 : decode cJ5_charAt_5068e 26 = .ok (.invokestatic 144, 3) := dz_184 (kBcJ5_charAt_5068e_0 26 rfl rfl) (kBcJ5_charAt_5068e_0 27 rfl rfl) (kBcJ5_charAt_5068e_0 28 rfl rfl) rfl
theorem dJ5_charAt_5068e_29 : decode cJ5_charAt_5068e 29 = .ok (.iload_n 2, 1) := dz_28 (kBcJ5_charAt_5068e_0 29 rfl rfl)
theorem dJ5_charAt_5068e_30 : decode cJ5_charAt_5068e 30 = .ok (.ifCond .ne 12, 3) := dz_154 (kBcJ5_charAt_5068e_0 30 rfl rfl) (kBcJ5_charAt_5068e_0 31 rfl rfl) (kBcJ5_charAt_5068e_1 32 rfl rfl) rfl
theorem dJ5_charAt_5068e_33 : decode cJ5_charAt_5068e 33 = .ok (.aload_n 3, 1) := dz_45 (kBcJ5_charAt_5068e_1 33 rfl rfl)
theorem dJ5_charAt_5068e_34 : decode cJ5_charAt_5068e 34 = .ok (.iload_n 1, 1) := dz_27 (kBcJ5_charAt_5068e_1 34 rfl rfl)
theorem dJ5_charAt_5068e_35 : decode cJ5_charAt_5068e 35 = .ok (.baload, 1) := dz_51 (kBcJ5_charAt_5068e_1 35 rfl rfl)
theorem dJ5_charAt_5068e_36 : decode cJ5_charAt_5068e 36 = .ok (.sipush 255, 3) := dz_17 (kBcJ5_charAt_5068e_1 36 rfl rfl) (kBcJ5_charAt_5068e_1 37 rfl rfl) (kBcJ5_charAt_5068e_1 38 rfl rfl) rfl
theorem dJ5_charAt_5068e_39 : decode cJ5_charAt_5068e 39 = .ok (.iand, 1) := dz_126 (kBcJ5_charAt_5068e_1 39 rfl rfl)
theorem dJ5_charAt_5068e_40 : decode cJ5_charAt_5068e 40 = .ok (.i2c, 1) := dz_146 (kBcJ5_charAt_5068e_1 40 rfl rfl)
theorem dJ5_charAt_5068e_41 : decode cJ5_charAt_5068e 41 = .ok (.ireturn, 1) := dz_172 (kBcJ5_charAt_5068e_1 41 rfl rfl)
theorem dJ5_charAt_5068e_42 : decode cJ5_charAt_5068e 42 = .ok (.aload_n 3, 1) := dz_45 (kBcJ5_charAt_5068e_1 42 rfl rfl)
theorem dJ5_charAt_5068e_43 : decode cJ5_charAt_5068e 43 = .ok (.iload_n 1, 1) := dz_27 (kBcJ5_charAt_5068e_1 43 rfl rfl)
theorem dJ5_charAt_5068e_44 : decode cJ5_charAt_5068e 44 = .ok (.invokestatic 148, 3) := dz_184 (kBcJ5_charAt_5068e_1 44 rfl rfl) (kBcJ5_charAt_5068e_1 45 rfl rfl) (kBcJ5_charAt_5068e_1 46 rfl rfl) rfl
theorem dJ5_charAt_5068e_47 : decode cJ5_charAt_5068e 47 = .ok (.ireturn, 1) := dz_172 (kBcJ5_charAt_5068e_1 47 rfl rfl)
def kCcJ5_append_cf1ce_0 : List Nat := [43, 199, 0, 8, 42, 182, 0, 204, 176, 43, 182, 0, 32, 61, 42, 42, 180, 0, 79, 28, 96, 182, 0, 100, 42, 42, 180, 0, 79, 43, 182, 0]
def kCcJ5_append_cf1ce_1 : List Nat := [208, 42, 89, 180, 0, 79, 28, 96, 181, 0, 79, 42, 176]
def kRcJ5_append_cf1ce_2 : List Nat := []
def kRcJ5_append_cf1ce_1 : List Nat := kCcJ5_append_cf1ce_1 ++ kRcJ5_append_cf1ce_2
def kRcJ5_append_cf1ce_0 : List Nat := kCcJ5_append_cf1ce_0 ++ kRcJ5_append_cf1ce_1
theorem kRcJ5_append_cf1ce_eq : cJ5_append_cf1ce.data.toList.map UInt8.toNat = kRcJ5_append_cf1ce_0 := by decide +kernel
theorem katcJ5_append_cf1ce_0 (i : Nat) : (cJ5_append_cf1ce.data.toList.map UInt8.toNat)[0 + i]? = kRcJ5_append_cf1ce_0[i]? := by rw [kRcJ5_append_cf1ce_eq, Nat.zero_add]
theorem katcJ5_append_cf1ce_1 : ∀ i : Nat, (cJ5_append_cf1ce.data.toList.map UInt8.toNat)[32 + i]? = kRcJ5_append_cf1ce_1[i]? := kstep katcJ5_append_cf1ce_0 (C := kCcJ5_append_cf1ce_0) rfl rfl
theorem kBcJ5_append_cf1ce_0 {b : Nat} (p : Nat) (hp : Nat.ble 0 p = true) (h : kCcJ5_append_cf1ce_0[p - 0]? = some b) : kb cJ5_append_cf1ce p b := kin katcJ5_append_cf1ce_0 rfl hp h
theorem kBcJ5_append_cf1ce_1 {b : Nat} (p : Nat) (hp : Nat.ble 32 p = true) (h : kCcJ5_append_cf1ce_1[p - 32]? = some b) : kb cJ5_append_cf1ce p b := kin katcJ5_append_cf1ce_1 rfl hp h
theorem dJ5_append_cf1ce_0 : decode cJ5_append_cf1ce 0 = .ok (.aload_n 1, 1) := dz_43 (kBcJ5_append_cf1ce_0 0 rfl rfl)
theorem dJ5_append_cf1ce_1 : decode cJ5_append_cf1ce 1 = .ok (.ifnonnull 8, 3) := dz_199 (kBcJ5_append_cf1ce_0 1 rfl rfl) (kBcJ5_append_cf1ce_0 2 rfl rfl) (kBcJ5_append_cf1ce_0 3 rfl rfl) rfl
theorem dJ5_append_cf1ce_4 : decode cJ5_append_cf1ce 4 = .ok (.aload_n 0, 1) := dz_42 (kBcJ5_append_cf1ce_0 4 rfl rfl)
theorem dJ5_append_cf1ce_5 : decode cJ5_append_cf1ce 5 = .ok (.invokevirtual 204, 3) := dz_182 (kBcJ5_append_cf1ce_0 5 rfl rfl) (kBcJ5_append_cf1ce_0 6 rfl rfl) (kBcJ5_append_cf1ce_0 7 rfl rfl) rfl
theorem dJ5_append_cf1ce_8 : decode cJ5_append_cf1ce 8 = .ok (.areturn, 1) := dz_176 (kBcJ5_append_cf1ce_0 8 rfl rfl)
theorem dJ5_append_cf1ce_9 : decode cJ5_append_cf1ce 9 = .ok (.aload_n 1, 1) := dz_43 (kBcJ5_append_cf1ce_0 9 rfl rfl)
theorem dJ5_append_cf1ce_10 : decode cJ5_append_cf1ce 10 = .ok (.invokevirtual 32, 3) := dz_182 (kBcJ5_append_cf1ce_0 10 rfl rfl) (kBcJ5_append_cf1ce_0 11 rfl rfl) (kBcJ5_append_cf1ce_0 12 rfl rfl) rfl
theorem dJ5_append_cf1ce_13 : decode cJ5_append_cf1ce 13 = .ok (.istore_n 2, 1) := dz_61 (kBcJ5_append_cf1ce_0 13 rfl rfl)
theorem dJ5_append_cf1ce_14 : decode cJ5_append_cf1ce 14 = .ok (.aload_n 0, 1) := dz_42 (kBcJ5_append_cf1ce_0 14 rfl rfl)
theorem dJ5_append_cf1ce_15 : decode cJ5_append_cf1ce 15 = .ok (.aload_n 0, 1) := dz_42 (kBcJ5_append_cf1ce_0 15 rfl rfl)
theorem dJ5_append_cf1ce_16 : decode cJ5_append_cf1ce 16 = .ok (.getfield 79, 3) := dz_180 (kBcJ5_append_cf1ce_0 16 rfl rfl) (kBcJ5_append_cf1ce_0 17 rfl rfl) (kBcJ5_append_cf1ce_0 18 rfl rfl) rfl
theorem dJ5_append_cf1ce_19 : decode cJ5_append_cf1ce 19 = .ok (.iload_n 2, 1) := dz_28 (kBcJ5_append_cf1ce_0 19 rfl rfl)
theorem dJ5_append_cf1ce_20 : decode cJ5_append_cf1ce 20 = .ok (.iadd, 1) := dz_96 (kBcJ5_append_cf1ce_0 20 rfl rfl)
theorem dJ5_append_cf1ce_21 : decode cJ5_append_cf1ce 21 = .ok (.invokevirtual 100, 3) := dz_182 (kBcJ5_append_cf1ce_0 21 rfl rfl) (kBcJ5_append_cf1ce_0 22 rfl rfl) (kBcJ5_append_cf1ce_0 23 rfl rfl) rfl
theorem dJ5_append_cf1ce_24 : decode cJ5_append_cf1ce 24 = .ok (.aload_n 0, 1) := dz_42 (kBcJ5_append_cf1ce_0 24 rfl rfl)
theorem dJ5_append_cf1ce_25 : decode cJ5_append_cf1ce 25 = .ok (.aload_n 0, 1) := dz_42 (kBcJ5_append_cf1ce_0 25 rfl rfl)
theorem dJ5_append_cf1ce_26 : decode cJ5_append_cf1ce 26 = .ok (.getfield 79, 3) := dz_180 (kBcJ5_append_cf1ce_0 26 rfl rfl) (kBcJ5_append_cf1ce_0 27 rfl rfl) (kBcJ5_append_cf1ce_0 28 rfl rfl) rfl
theorem dJ5_append_cf1ce_29 : decode cJ5_append_cf1ce 29 = .ok (.aload_n 1, 1) := dz_43 (kBcJ5_append_cf1ce_0 29 rfl rfl)
theorem dJ5_append_cf1ce_30 : decode cJ5_append_cf1ce 30 = .ok (.invokevirtual 208, 3) := dz_182 (kBcJ5_append_cf1ce_0 30 rfl rfl) (kBcJ5_append_cf1ce_0 31 rfl rfl) (kBcJ5_append_cf1ce_1 32 rfl rfl) rfl
theorem dJ5_append_cf1ce_33 : decode cJ5_append_cf1ce 33 = .ok (.aload_n 0, 1) := dz_42 (kBcJ5_append_cf1ce_1 33 rfl rfl)
theorem dJ5_append_cf1ce_34 : decode cJ5_append_cf1ce 34 = .ok (.dup, 1) := dz_89 (kBcJ5_append_cf1ce_1 34 rfl rfl)
theorem dJ5_append_cf1ce_35 : decode cJ5_append_cf1ce 35 = .ok (.getfield 79, 3) := dz_180 (kBcJ5_append_cf1ce_1 35 rfl rfl) (kBcJ5_append_cf1ce_1 36 rfl rfl) (kBcJ5_append_cf1ce_1 37 rfl rfl) rfl
theorem dJ5_append_cf1ce_38 : decode cJ5_append_cf1ce 38 = .ok (.iload_n 2, 1) := dz_28 (kBcJ5_append_cf1ce_1 38 rfl rfl)
theorem dJ5_append_cf1ce_39 : decode cJ5_append_cf1ce 39 = .ok (.iadd, 1) := dz_96 (kBcJ5_append_cf1ce_1 39 rfl rfl)
theorem dJ5_append_cf1ce_40 : decode cJ5_append_cf1ce 40 = .ok (.putfield 79, 3) := dz_181 (kBcJ5_append_cf1ce_1 40 rfl rfl) (kBcJ5_append_cf1ce_1 41 rfl rfl) (kBcJ5_append_cf1ce_1 42 rfl rfl) rfl
theorem dJ5_append_cf1ce_43 : decode cJ5_append_cf1ce 43 = .ok (.aload_n 0, 1) := dz_42 (kBcJ5_append_cf1ce_1 43 rfl rfl)
theorem dJ5_append_cf1ce_44 : decode cJ5_append_cf1ce 44 = .ok (.areturn, 1) := dz_176 (kBcJ5_append_cf1ce_1 44 rfl rfl)
def kCcJ5_appendNull_278bc_0 : List Nat := [42, 42, 180, 0, 79, 7, 96, 182, 0, 100, 42, 180, 0, 79, 60, 42, 180, 0, 15, 77, 42, 182, 0, 83, 153, 0, 38, 44, 27, 132, 1, 1]
def kCcJ5_appendNull_278bc_1 : List Nat := [16, 110, 84, 44, 27, 132, 1, 1, 16, 117, 84, 44, 27, 132, 1, 1, 16, 108, 84, 44, 27, 132, 1, 1, 16, 108, 84, 167, 0, 17, 44, 27]
def kCcJ5_appendNull_278bc_2 : List Nat := [16, 110, 16, 117, 16, 108, 16, 108, 184, 0, 226, 60, 42, 27, 181, 0, 79, 42, 176]
def kRcJ5_appendNull_278bc_3 : List Nat := []
def kRcJ5_appendNull_278bc_2 : List Nat := kCcJ5_appendNull_278bc_2 ++ kRcJ5_appendNull_278bc_3
def kRcJ5_appendNull_278bc_1 : List Nat := kCcJ5_appendNull_278bc_1 ++ kRcJ5_appendNull_278bc_2
def kRcJ5_appendNull_278bc_0 : List Nat := kCcJ5_appendNull_278bc_0 ++ kRcJ5_appendNull_278bc_1
theorem kRcJ5_appendNull_278bc_eq : cJ5_appendNull_278bc.data.toList.map UInt8.toNat = kRcJ5_appendNull_278bc_0 := by decide +kernel
theorem katcJ5_appendNull_278bc_0 (i : Nat) : (cJ5_appendNull_278bc.data.toList.map UInt8.toNat)[0 + i]? = kRcJ5_appendNull_278bc_0[i]? := by rw [kRcJ5_appendNull_278bc_eq, Nat.zero_add]
theorem katcJ5_appendNull_278bc_1 : ∀ i : Nat, (cJ5_appendNull_278bc.data.toList.map UInt8.toNat)[32 + i]? = kRcJ5_appendNull_278bc_1[i]? := kstep katcJ5_appendNull_278bc_0 (C := kCcJ5_appendNull_278bc_0) rfl rfl
theorem katcJ5_appendNull_278bc_2 : ∀ i : Nat, (cJ5_appendNull_278bc.data.toList.map UInt8.toNat)[64 + i]? = kRcJ5_appendNull_278bc_2[i]? := kstep katcJ5_appendNull_278bc_1 (C := kCcJ5_appendNull_278bc_1) rfl rfl
theorem kBcJ5_appendNull_278bc_0 {b : Nat} (p : Nat) (hp : Nat.ble 0 p = true) (h : kCcJ5_appendNull_278bc_0[p - 0]? = some b) : kb cJ5_appendNull_278bc p b := kin katcJ5_appendNull_278bc_0 rfl hp h
theorem kBcJ5_appendNull_278bc_1 {b : Nat} (p : Nat) (hp : Nat.ble 32 p = true) (h : kCcJ5_appendNull_278bc_1[p - 32]? = some b) : kb cJ5_appendNull_278bc p b := kin katcJ5_appendNull_278bc_1 rfl hp h
theorem kBcJ5_appendNull_278bc_2 {b : Nat} (p : Nat) (hp : Nat.ble 64 p = true) (h : kCcJ5_appendNull_278bc_2[p - 64]? = some b) : kb cJ5_appendNull_278bc p b := kin katcJ5_appendNull_278bc_2 rfl hp h
theorem dJ5_appendNull_278bc_0 : decode cJ5_appendNull_278bc 0 = .ok (.aload_n 0, 1) := dz_42 (kBcJ5_appendNull_278bc_0 0 rfl rfl)
theorem dJ5_appendNull_278bc_1 : decode cJ5_appendNull_278bc 1 = .ok (.aload_n 0, 1) := dz_42 (kBcJ5_appendNull_278bc_0 1 rfl rfl)
theorem dJ5_appendNull_278bc_2 : decode cJ5_appendNull_278bc 2 = .ok (.getfield 79, 3) := dz_180 (kBcJ5_appendNull_278bc_0 2 rfl rfl) (kBcJ5_appendNull_278bc_0 3 rfl rfl) (kBcJ5_appendNull_278bc_0 4 rfl rfl) rfl
theorem dJ5_appendNull_278bc_5 : decode cJ5_appendNull_278bc 5 = .ok (.iconst 4, 1) := dz_7 (kBcJ5_appendNull_278bc_0 5 rfl rfl)
theorem dJ5_appendNull_278bc_6 : decode cJ5_appendNull_278bc 6 = .ok (.iadd, 1) := dz_96 (kBcJ5_appendNull_278bc_0 6 rfl rfl)
theorem dJ5_appendNull_278bc_7 : decode cJ5_appendNull_278bc 7 = .ok (.invokevirtual 100, 3) := dz_182 (kBcJ5_appendNull_278bc_0 7 rfl rfl) (kBcJ5_appendNull_278bc_0 8 rfl rfl) (kBcJ5_appendNull_278bc_0 9 rfl rfl) rfl
theorem dJ5_appendNull_278bc_10 : decode cJ5_appendNull_278bc 10 = .ok (.aload_n 0, 1) := dz_42 (kBcJ5_appendNull_278bc_0 10 rfl rfl)
theorem dJ5_appendNull_278bc_11 : decode cJ5_appendNull_278bc 11 = .ok (.getfield 79, 3) := dz_180 (kBcJ5_appendNull_278bc_0 11 rfl rfl) (kBcJ5_appendNull_278bc_0 12 rfl rfl) (kBcJ5_appendNull_278bc_0 13 rfl rfl) rfl
theorem dJ5_appendNull_278bc_14 : decode cJ5_appendNull_278bc 14 = .ok (.istore_n 1, 1) := dz_60 (kBcJ5_appendNull_278bc_0 14 rfl rfl)
theorem dJ5_appendNull_278bc_15 : decode cJ5_appendNull_278bc 15 = .ok (.aload_n 0, 1) := dz_42 (kBcJ5_appendNull_278bc_0 15 rfl rfl)
theorem dJ5_appendNull_278bc_16 : decode cJ5_appendNull_278bc 16 = .ok (.getfield 15, 3) := dz_180 (kBcJ5_appendNull_278bc_0 16 rfl rfl) (kBcJ5_appendNull_278bc_0 17 rfl rfl) (kBcJ5_appendNull_278bc_0 18 rfl rfl) rfl
theorem dJ5_appendNull_278bc_19 : decode cJ5_appendNull_278bc 19 = .ok (.astore_n 2, 1) := dz_77 (kBcJ5_appendNull_278bc_0 19 rfl rfl)
theorem dJ5_appendNull_278bc_20 : decode cJ5_appendNull_278bc 20 = .ok (.aload_n 0, 1) := dz_42 (kBcJ5_appendNull_278bc_0 20 rfl rfl)
theorem dJ5_appendNull_278bc_21 : decode cJ5_appendNull_278bc 21 = .ok (.invokevirtual 83, 3) := dz_182 (kBcJ5_appendNull_278bc_0 21 rfl rfl) (kBcJ5_appendNull_278bc_0 22 rfl rfl) (kBcJ5_appendNull_278bc_0 23 rfl rfl) rfl
theorem dJ5_appendNull_278bc_24 : decode cJ5_appendNull_278bc 24 = .ok (.ifCond .eq 38, 3) := dz_153 (kBcJ5_appendNull_278bc_0 24 rfl rfl) (kBcJ5_appendNull_278bc_0 25 rfl rfl) (kBcJ5_appendNull_278bc_0 26 rfl rfl) rfl
theorem dJ5_appendNull_278bc_27 : decode cJ5_appendNull_278bc 27 = .ok (.aload_n 2, 1) := dz_44 (kBcJ5_appendNull_278bc_0 27 rfl rfl)
theorem dJ5_appendNull_278bc_28 : decode cJ5_appendNull_278bc 28 = .ok (.iload_n 1, 1) := dz_27 (kBcJ5_appendNull_278bc_0 28 rfl rfl)
theorem dJ5_appendNull_278bc_29 : decode cJ5_appendNull_278bc 29 = .ok (.iinc 1 1, 3) := dz_132 (kBcJ5_appendNull_278bc_0 29 rfl rfl) (kBcJ5_appendNull_278bc_0 30 rfl rfl) (kBcJ5_appendNull_278bc_0 31 rfl rfl) rfl
theorem dJ5_appendNull_278bc_32 : decode cJ5_appendNull_278bc 32 = .ok (.bipush 110, 2) := dz_16 (kBcJ5_appendNull_278bc_1 32 rfl rfl) (kBcJ5_appendNull_278bc_1 33 rfl rfl) rfl
theorem dJ5_appendNull_278bc_34 : decode cJ5_appendNull_278bc 34 = .ok (.bastore, 1) := dz_84 (kBcJ5_appendNull_278bc_1 34 rfl rfl)
theorem dJ5_appendNull_278bc_35 : decode cJ5_appendNull_278bc 35 = .ok (.aload_n 2, 1) := dz_44 (kBcJ5_appendNull_278bc_1 35 rfl rfl)
theorem dJ5_appendNull_278bc_36 : decode cJ5_appendNull_278bc 36 = .ok (.iload_n 1, 1) := dz_27 (kBcJ5_appendNull_278bc_1 36 rfl rfl)
theorem dJ5_appendNull_278bc_37 : decode cJ5_appendNull_278bc 37 = .ok (.iinc 1 1, 3) := dz_132 (kBcJ5_appendNull_278bc_1 37 rfl rfl) (kBcJ5_appendNull_278bc_1 38 rfl rfl) (kBcJ5_appendNull_278bc_1 39 rfl rfl) rfl
theorem dJ5_appendNull_278bc_40 : decode cJ5_appendNull_278bc 40 = .ok (.bipush 117, 2) := dz_16 (kBcJ5_appendNull_278bc_1 40 rfl rfl) (kBcJ5_appendNull_278bc_1 41 rfl rfl) rfl
theorem dJ5_appendNull_278bc_42 : decode cJ5_appendNull_278bc 42 = .ok (.bastore, 1) := dz_84 (kBcJ5_appendNull_278bc_1 42 rfl rfl)
theorem dJ5_appendNull_278bc_43 : decode cJ5_appendNull_278bc 43 = .ok (.aload_n 2, 1) := dz_44 (kBcJ5_appendNull_278bc_1 43 rfl rfl)
theorem dJ5_appendNull_278bc_44 : decode cJ5_appendNull_278bc 44 = .ok (.iload_n 1, 1) := dz_27 (kBcJ5_appendNull_278bc_1 44 rfl rfl)
theorem dJ5_appendNull_278bc_45 : decode cJ5_appendNull_278bc 45 = .ok (.iinc 1 1, 3) := dz_132 (kBcJ5_appendNull_278bc_1 45 rfl rfl) (kBcJ5_appendNull_278bc_1 46 rfl rfl) (kBcJ5_appendNull_278bc_1 47 rfl rfl) rfl
theorem dJ5_appendNull_278bc_48 : decode cJ5_appendNull_278bc 48 = .ok (.bipush 108, 2) := dz_16 (kBcJ5_appendNull_278bc_1 48 rfl rfl) (kBcJ5_appendNull_278bc_1 49 rfl rfl) rfl
theorem dJ5_appendNull_278bc_50 : decode cJ5_appendNull_278bc 50 = .ok (.bastore, 1) := dz_84 (kBcJ5_appendNull_278bc_1 50 rfl rfl)
theorem dJ5_appendNull_278bc_51 : decode cJ5_appendNull_278bc 51 = .ok (.aload_n 2, 1) := dz_44 (kBcJ5_appendNull_278bc_1 51 rfl rfl)
theorem dJ5_appendNull_278bc_52 : decode cJ5_appendNull_278bc 52 = .ok (.iload_n 1, 1) := dz_27 (kBcJ5_appendNull_278bc_1 52 rfl rfl)
theorem dJ5_appendNull_278bc_53 : decode cJ5_appendNull_278bc 53 = .ok (.iinc 1 1, 3) := dz_132 (kBcJ5_appendNull_278bc_1 53 rfl rfl) (kBcJ5_appendNull_278bc_1 54 rfl rfl) (kBcJ5_appendNull_278bc_1 55 rfl rfl) rfl
theorem dJ5_appendNull_278bc_56 : decode cJ5_appendNull_278bc 56 = .ok (.bipush 108, 2) := dz_16 (kBcJ5_appendNull_278bc_1 56 rfl rfl) (kBcJ5_appendNull_278bc_1 57 rfl rfl) rfl
theorem dJ5_appendNull_278bc_58 : decode cJ5_appendNull_278bc 58 = .ok (.bastore, 1) := dz_84 (kBcJ5_appendNull_278bc_1 58 rfl rfl)
theorem dJ5_appendNull_278bc_59 : decode cJ5_appendNull_278bc 59 = .ok (.goto 17, 3) := dz_167 (kBcJ5_appendNull_278bc_1 59 rfl rfl) (kBcJ5_appendNull_278bc_1 60 rfl rfl) (kBcJ5_appendNull_278bc_1 61 rfl rfl) rfl
theorem dJ5_appendNull_278bc_62 : decode cJ5_appendNull_278bc 62 = .ok (.aload_n 2, 1) := dz_44 (kBcJ5_appendNull_278bc_1 62 rfl rfl)
theorem dJ5_appendNull_278bc_63 : decode cJ5_appendNull_278bc 63 = .ok (.iload_n 1, 1) := dz_27 (kBcJ5_appendNull_278bc_1 63 rfl rfl)
theorem dJ5_appendNull_278bc_64 : decode cJ5_appendNull_278bc 64 = .ok (.bipush 110, 2) := dz_16 (kBcJ5_appendNull_278bc_2 64 rfl rfl) (kBcJ5_appendNull_278bc_2 65 rfl rfl) rfl
theorem dJ5_appendNull_278bc_66 : decode cJ5_appendNull_278bc 66 = .ok (.bipush 117, 2) := dz_16 (kBcJ5_appendNull_278bc_2 66 rfl rfl) (kBcJ5_appendNull_278bc_2 67 rfl rfl) rfl
theorem dJ5_appendNull_278bc_68 : decode cJ5_appendNull_278bc 68 = .ok (.bipush 108, 2) := dz_16 (kBcJ5_appendNull_278bc_2 68 rfl rfl) (kBcJ5_appendNull_278bc_2 69 rfl rfl) rfl
theorem dJ5_appendNull_278bc_70 : decode cJ5_appendNull_278bc 70 = .ok (.bipush 108, 2) := dz_16 (kBcJ5_appendNull_278bc_2 70 rfl rfl) (kBcJ5_appendNull_278bc_2 71 rfl rfl) rfl
theorem dJ5_appendNull_278bc_72 : decode cJ5_appendNull_278bc 72 = .ok (.invokestatic 226, 3) := dz_184 (kBcJ5_appendNull_278bc_2 72 rfl rfl) (kBcJ5_appendNull_278bc_2 73 rfl rfl) (kBcJ5_appendNull_278bc_2 74 rfl rfl) rfl
theorem dJ5_appendNull_278bc_75 : decode cJ5_appendNull_278bc 75 = .ok (.istore_n 1, 1) := dz_60 (kBcJ5_appendNull_278bc_2 75 rfl rfl)
theorem dJ5_appendNull_278bc_76 : decode cJ5_appendNull_278bc 76 = .ok (.aload_n 0, 1) := dz_42 (kBcJ5_appendNull_278bc_2 76 rfl rfl)
theorem dJ5_appendNull_278bc_77 : decode cJ5_appendNull_278bc 77 = .ok (.iload_n 1, 1) := dz_27 (kBcJ5_appendNull_278bc_2 77 rfl rfl)
theorem dJ5_appendNull_278bc_78 : decode cJ5_appendNull_278bc 78 = .ok (.putfield 79, 3) := dz_181 (kBcJ5_appendNull_278bc_2 78 rfl rfl) (kBcJ5_appendNull_278bc_2 79 rfl rfl) (kBcJ5_appendNull_278bc_2 80 rfl rfl) rfl
theorem dJ5_appendNull_278bc_81 : decode cJ5_appendNull_278bc 81 = .ok (.aload_n 0, 1) := dz_42 (kBcJ5_appendNull_278bc_2 81 rfl rfl)
theorem dJ5_appendNull_278bc_82 : decode cJ5_appendNull_278bc 82 = .ok (.areturn, 1) := dz_176 (kBcJ5_appendNull_278bc_2 82 rfl rfl)
def kCcJ5_append_3fe6f_0 : List Nat := [42, 42, 180, 0, 79, 4, 96, 182, 0, 100, 42, 182, 0, 83, 153, 0, 31, 27, 184, 0, 191, 153, 0, 24, 42, 180, 0, 15, 42, 89, 180, 0]
def kCcJ5_append_3fe6f_1 : List Nat := [79, 90, 4, 96, 181, 0, 79, 27, 145, 84, 167, 0, 33, 42, 182, 0, 83, 153, 0, 7, 42, 182, 0, 195, 42, 180, 0, 15, 42, 89, 180, 0]
def kCcJ5_append_3fe6f_2 : List Nat := [79, 90, 4, 96, 181, 0, 79, 27, 184, 0, 197, 42, 176]
def kRcJ5_append_3fe6f_3 : List Nat := []
def kRcJ5_append_3fe6f_2 : List Nat := kCcJ5_append_3fe6f_2 ++ kRcJ5_append_3fe6f_3
def kRcJ5_append_3fe6f_1 : List Nat := kCcJ5_append_3fe6f_1 ++ kRcJ5_append_3fe6f_2
def kRcJ5_append_3fe6f_0 : List Nat := kCcJ5_append_3fe6f_0 ++ kRcJ5_append_3fe6f_1
theorem kRcJ5_append_3fe6f_eq : cJ5_append_3fe6f.data.toList.map UInt8.toNat = kRcJ5_append_3fe6f_0 := by decide +kernel
theorem katcJ5_append_3fe6f_0 (i : Nat) : (cJ5_append_3fe6f.data.toList.map UInt8.toNat)[0 + i]? = kRcJ5_append_3fe6f_0[i]? := by rw [kRcJ5_append_3fe6f_eq, Nat.zero_add]
theorem katcJ5_append_3fe6f_1 : ∀ i : Nat, (cJ5_append_3fe6f.data.toList.map UInt8.toNat)[32 + i]? = kRcJ5_append_3fe6f_1[i]? := kstep katcJ5_append_3fe6f_0 (C := kCcJ5_append_3fe6f_0) rfl rfl
theorem katcJ5_append_3fe6f_2 : ∀ i : Nat, (cJ5_append_3fe6f.data.toList.map UInt8.toNat)[64 + i]? = kRcJ5_append_3fe6f_2[i]? := kstep katcJ5_append_3fe6f_1 (C := kCcJ5_append_3fe6f_1) rfl rfl
theorem kBcJ5_append_3fe6f_0 {b : Nat} (p : Nat) (hp : Nat.ble 0 p = true) (h : kCcJ5_append_3fe6f_0[p - 0]? = some b) : kb cJ5_append_3fe6f p b := kin katcJ5_append_3fe6f_0 rfl hp h
theorem kBcJ5_append_3fe6f_1 {b : Nat} (p : Nat) (hp : Nat.ble 32 p = true) (h : kCcJ5_append_3fe6f_1[p - 32]? = some b) : kb cJ5_append_3fe6f p b := kin katcJ5_append_3fe6f_1 rfl hp h
theorem kBcJ5_append_3fe6f_2 {b : Nat} (p : Nat) (hp : Nat.ble 64 p = true) (h : kCcJ5_append_3fe6f_2[p - 64]? = some b) : kb cJ5_append_3fe6f p b := kin katcJ5_append_3fe6f_2 rfl hp h
theorem dJ5_append_3fe6f_0 : decode cJ5_append_3fe6f 0 = .ok (.aload_n 0, 1) := dz_42 (kBcJ5_append_3fe6f_0 0 rfl rfl)
theorem dJ5_append_3fe6f_1 : decode cJ5_append_3fe6f 1 = .ok (.aload_n 0, 1) := dz_42 (kBcJ5_append_3fe6f_0 1 rfl rfl)
theorem dJ5_append_3fe6f_2 : decode cJ5_append_3fe6f 2 = .ok (.getfield 79, 3) := dz_180 (kBcJ5_append_3fe6f_0 2 rfl rfl) (kBcJ5_append_3fe6f_0 3 rfl rfl) (kBcJ5_append_3fe6f_0 4 rfl rfl) rfl
theorem dJ5_append_3fe6f_5 : decode cJ5_append_3fe6f 5 = .ok (.iconst 1, 1) := dz_4 (kBcJ5_append_3fe6f_0 5 rfl rfl)
theorem dJ5_append_3fe6f_6 : decode cJ5_append_3fe6f 6 = .ok (.iadd, 1) := dz_96 (kBcJ5_append_3fe6f_0 6 rfl rfl)
theorem dJ5_append_3fe6f_7 : decode cJ5_append_3fe6f 7 = .ok (.invokevirtual 100, 3) := dz_182 (kBcJ5_append_3fe6f_0 7 rfl rfl) (kBcJ5_append_3fe6f_0 8 rfl rfl) (kBcJ5_append_3fe6f_0 9 rfl rfl) rfl
theorem dJ5_append_3fe6f_10 : decode cJ5_append_3fe6f 10 = .ok (.aload_n 0, 1) := dz_42 (kBcJ5_append_3fe6f_0 10 rfl rfl)
theorem dJ5_append_3fe6f_11 : decode cJ5_append_3fe6f 11 = .ok (.invokevirtual 83, 3) := dz_182 (kBcJ5_append_3fe6f_0 11 rfl rfl) (kBcJ5_append_3fe6f_0 12 rfl rfl) (kBcJ5_append_3fe6f_0 13 rfl rfl) rfl
theorem dJ5_append_3fe6f_14 : decode cJ5_append_3fe6f 14 = .ok (.ifCond .eq 31, 3) := dz_153 (kBcJ5_append_3fe6f_0 14 rfl rfl) (kBcJ5_append_3fe6f_0 15 rfl rfl) (kBcJ5_append_3fe6f_0 16 rfl rfl) rfl
theorem dJ5_append_3fe6f_17 : decode cJ5_append_3fe6f 17 = .ok (.iload_n 1, 1) := dz_27 (kBcJ5_append_3fe6f_0 17 rfl rfl)
theorem dJ5_append_3fe6f_18 : decode cJ5_append_3fe6f 18 = .ok (.invokestatic 191, 3) := dz_184 (kBcJ5_append_3fe6f_0 18 rfl rfl) (kBcJ5_append_3fe6f_0 19 rfl rfl) (kBcJ5_append_3fe6f_0 20 rfl rfl) rfl
theorem dJ5_append_3fe6f_21 : decode cJ5_append_3fe6f 21 = .ok (.ifCond .eq 24, 3) := dz_153 (kBcJ5_append_3fe6f_0 21 rfl rfl) (kBcJ5_append_3fe6f_0 22 rfl rfl) (kBcJ5_append_3fe6f_0 23 rfl rfl) rfl
theorem dJ5_append_3fe6f_24 : decode cJ5_append_3fe6f 24 = .ok (.aload_n 0, 1) := dz_42 (kBcJ5_append_3fe6f_0 24 rfl rfl)
theorem dJ5_append_3fe6f_25 : decode cJ5_append_3fe6f 25 = .ok (.getfield 15, 3) := dz_180 (kBcJ5_append_3fe6f_0 25 rfl rfl) (kBcJ5_append_3fe6f_0 26 rfl rfl) (kBcJ5_append_3fe6f_0 27 rfl rfl) rfl
theorem dJ5_append_3fe6f_28 : decode cJ5_append_3fe6f 28 = .ok (.aload_n 0, 1) := dz_42 (kBcJ5_append_3fe6f_0 28 rfl rfl)
theorem dJ5_append_3fe6f_29 : decode cJ5_append_3fe6f 29 = .ok (.dup, 1) := dz_89 (kBcJ5_append_3fe6f_0 29 rfl rfl)
theorem dJ5_append_3fe6f_30 : decode cJ5_append_3fe6f 30 = .ok (.getfield 79, 3) := dz_180 (kBcJ5_append_3fe6f_0 30 rfl rfl) (kBcJ5_append_3fe6f_0 31 rfl rfl) (kBcJ5_append_3fe6f_1 32 rfl rfl) rfl
theorem dJ5_append_3fe6f_33 : decode cJ5_append_3fe6f 33 = .ok (.dup_x1, 1) := dz_90 (kBcJ5_append_3fe6f_1 33 rfl rfl)
theorem dJ5_append_3fe6f_34 : decode cJ5_append_3fe6f 34 = .ok (.iconst 1, 1) := dz_4 (kBcJ5_append_3fe6f_1 34 rfl rfl)
theorem dJ5_append_3fe6f_35 : decode cJ5_append_3fe6f 35 = .ok (.iadd, 1) := dz_96 (kBcJ5_append_3fe6f_1 35 rfl rfl)
theorem dJ5_append_3fe6f_36 : decode cJ5_append_3fe6f 36 = .ok (.putfield 79, 3) := dz_181 (kBcJ5_append_3fe6f_1 36 rfl rfl) (kBcJ5_append_3fe6f_1 37 rfl rfl) (kBcJ5_append_3fe6f_1 38 rfl rfl) rfl
theorem dJ5_append_3fe6f_39 : decode cJ5_append_3fe6f 39 = .ok (.iload_n 1, 1) := dz_27 (kBcJ5_append_3fe6f_1 39 rfl rfl)
theorem dJ5_append_3fe6f_40 : decode cJ5_append_3fe6f 40 = .ok (.i2b, 1) := dz_145 (kBcJ5_append_3fe6f_1 40 rfl rfl)
theorem dJ5_append_3fe6f_41 : decode cJ5_append_3fe6f 41 = .ok (.bastore, 1) := dz_84 (kBcJ5_append_3fe6f_1 41 rfl rfl)
theorem dJ5_append_3fe6f_42 : decode cJ5_append_3fe6f 42 = .ok (.goto 33, 3) := dz_167 (kBcJ5_append_3fe6f_1 42 rfl rfl) (kBcJ5_append_3fe6f_1 43 rfl rfl) (kBcJ5_append_3fe6f_1 44 rfl rfl) rfl
theorem dJ5_append_3fe6f_45 : decode cJ5_append_3fe6f 45 = .ok (.aload_n 0, 1) := dz_42 (kBcJ5_append_3fe6f_1 45 rfl rfl)
theorem dJ5_append_3fe6f_46 : decode cJ5_append_3fe6f 46 = .ok (.invokevirtual 83, 3) := dz_182 (kBcJ5_append_3fe6f_1 46 rfl rfl) (kBcJ5_append_3fe6f_1 47 rfl rfl) (kBcJ5_append_3fe6f_1 48 rfl rfl) rfl
theorem dJ5_append_3fe6f_49 : decode cJ5_append_3fe6f 49 = .ok (.ifCond .eq 7, 3) := dz_153 (kBcJ5_append_3fe6f_1 49 rfl rfl) (kBcJ5_append_3fe6f_1 50 rfl rfl) (kBcJ5_append_3fe6f_1 51 rfl rfl) rfl
theorem dJ5_append_3fe6f_52 : decode cJ5_append_3fe6f 52 = .ok (.aload_n 0, 1) := dz_42 (kBcJ5_append_3fe6f_1 52 rfl rfl)
theorem dJ5_append_3fe6f_53 : decode cJ5_append_3fe6f 53 = .ok (.invokevirtual 195, 3) := dz_182 (kBcJ5_append_3fe6f_1 53 rfl rfl) (kBcJ5_append_3fe6f_1 54 rfl rfl) (kBcJ5_append_3fe6f_1 55 rfl rfl) rfl
theorem dJ5_append_3fe6f_56 : decode cJ5_append_3fe6f 56 = .ok (.aload_n 0, 1) := dz_42 (kBcJ5_append_3fe6f_1 56 rfl rfl)
theorem dJ5_append_3fe6f_57 : decode cJ5_append_3fe6f 57 = .ok (.getfield 15, 3) := dz_180 (kBcJ5_append_3fe6f_1 57 rfl rfl) (kBcJ5_append_3fe6f_1 58 rfl rfl) (kBcJ5_append_3fe6f_1 59 rfl rfl) rfl
theorem dJ5_append_3fe6f_60 : decode cJ5_append_3fe6f 60 = .ok (.aload_n 0, 1) := dz_42 (kBcJ5_append_3fe6f_1 60 rfl rfl)
theorem dJ5_append_3fe6f_61 : decode cJ5_append_3fe6f 61 = .ok (.dup, 1) := dz_89 (kBcJ5_append_3fe6f_1 61 rfl rfl)
theorem dJ5_append_3fe6f_62 : decode cJ5_append_3fe6f 62 = .ok (.getfield 79, 3) := dz_180 (kBcJ5_append_3fe6f_1 62 rfl rfl) (kBcJ5_append_3fe6f_1 63 rfl rfl) (kBcJ5_append_3fe6f_2 64 rfl rfl) rfl
theorem dJ5_append_3fe6f_65 : decode cJ5_append_3fe6f 65 = .ok (.dup_x1, 1) := dz_90 (kBcJ5_append_3fe6f_2 65 rfl rfl)
theorem dJ5_append_3fe6f_66 : decode cJ5_append_3fe6f 66 = .ok (.iconst 1, 1) := dz_4 (kBcJ5_append_3fe6f_2 66 rfl rfl)
theorem dJ5_append_3fe6f_67 : decode cJ5_append_3fe6f 67 = .ok (.iadd, 1) := dz_96 (kBcJ5_append_3fe6f_2 67 rfl rfl)
theorem dJ5_append_3fe6f_68 : decode cJ5_append_3fe6f 68 = .ok (.putfield 79, 3) := dz_181 (kBcJ5_append_3fe6f_2 68 rfl rfl) (kBcJ5_append_3fe6f_2 69 rfl rfl) (kBcJ5_append_3fe6f_2 70 rfl rfl) rfl
theorem dJ5_append_3fe6f_71 : decode cJ5_append_3fe6f 71 = .ok (.iload_n 1, 1) := dz_27 (kBcJ5_append_3fe6f_2 71 rfl rfl)
theorem dJ5_append_3fe6f_72 : decode cJ5_append_3fe6f 72 = .ok (.invokestatic 197, 3) := dz_184 (kBcJ5_append_3fe6f_2 72 rfl rfl) (kBcJ5_append_3fe6f_2 73 rfl rfl) (kBcJ5_append_3fe6f_2 74 rfl rfl) rfl
theorem dJ5_append_3fe6f_75 : decode cJ5_append_3fe6f 75 = .ok (.aload_n 0, 1) := dz_42 (kBcJ5_append_3fe6f_2 75 rfl rfl)
theorem dJ5_append_3fe6f_76 : decode cJ5_append_3fe6f 76 = .ok (.areturn, 1) := dz_176 (kBcJ5_append_3fe6f_2 76 rfl rfl)
def kCcJ5_append_c97b9_0 : List Nat := [42, 180, 0, 79, 61, 28, 27, 184, 0, 245, 96, 62, 42, 29, 182, 0, 100, 42, 182, 0, 83, 153, 0, 16, 27, 29, 42, 180, 0, 15, 184, 0]
def kCcJ5_append_c97b9_1 : List Nat := [248, 87, 167, 0, 14, 27, 28, 29, 42, 180, 0, 15, 184, 0, 251, 87, 42, 29, 181, 0, 79, 42, 176]
def kRcJ5_append_c97b9_2 : List Nat := []
def kRcJ5_append_c97b9_1 : List Nat := kCcJ5_append_c97b9_1 ++ kRcJ5_append_c97b9_2
def kRcJ5_append_c97b9_0 : List Nat := kCcJ5_append_c97b9_0 ++ kRcJ5_append_c97b9_1
theorem kRcJ5_append_c97b9_eq : cJ5_append_c97b9.data.toList.map UInt8.toNat = kRcJ5_append_c97b9_0 := by decide +kernel
theorem katcJ5_append_c97b9_0 (i : Nat) : (cJ5_append_c97b9.data.toList.map UInt8.toNat)[0 + i]? = kRcJ5_append_c97b9_0[i]? := by rw [kRcJ5_append_c97b9_eq, Nat.zero_add]
theorem katcJ5_append_c97b9_1 : ∀ i : Nat, (cJ5_append_c97b9.data.toList.map UInt8.toNat)[32 + i]? = kRcJ5_append_c97b9_1[i]? := kstep katcJ5_append_c97b9_0 (C := kCcJ5_append_c97b9_0) rfl rfl
theorem kBcJ5_append_c97b9_0 {b : Nat} (p : Nat) (hp : Nat.ble 0 p = true) (h : kCcJ5_append_c97b9_0[p - 0]? = some b) : kb cJ5_append_c97b9 p b := kin katcJ5_append_c97b9_0 rfl hp h
theorem kBcJ5_append_c97b9_1 {b : Nat} (p : Nat) (hp : Nat.ble 32 p = true) (h : kCcJ5_append_c97b9_1[p - 32]? = some b) : kb cJ5_append_c97b9 p b := kin katcJ5_append_c97b9_1 rfl hp h
theorem dJ5_append_c97b9_0 : decode cJ5_append_c97b9 0 = .ok (.aload_n 0, 1) := dz_42 (kBcJ5_append_c97b9_0 0 rfl rfl)
theorem dJ5_append_c97b9_1 : decode cJ5_append_c97b9 1 = .ok (.getfield 79, 3) := dz_180 (kBcJ5_append_c97b9_0 1 rfl rfl) (kBcJ5_append_c97b9_0 2 rfl rfl) (kBcJ5_append_c97b9_0 3 rfl rfl) rfl
theorem dJ5_append_c97b9_4 : decode cJ5_append_c97b9 4 = .ok (.istore_n 2, 1) := dz_61 (kBcJ5_append_c97b9_0 4 rfl rfl)
theorem dJ5_append_c97b9_5 : decode cJ5_append_c97b9 5 = .ok (.iload_n 2, 1) := dz_28 (kBcJ5_append_c97b9_0 5 rfl rfl)
theorem dJ5_append_c97b9_6 : decode cJ5_append_c97b9 6 = .ok (.iload_n 1, 1) := dz_27 (kBcJ5_append_c97b9_0 6 rfl rfl)
theorem dJ5_append_c97b9_7 : decode cJ5_append_c97b9 7 = .ok (.invokestatic 245, 3) := dz_184 (kBcJ5_append_c97b9_0 7 rfl rfl) (kBcJ5_append_c97b9_0 8 rfl rfl) (kBcJ5_append_c97b9_0 9 rfl rfl) rfl
theorem dJ5_append_c97b9_10 : decode cJ5_append_c97b9 10 = .ok (.iadd, 1) := dz_96 (kBcJ5_append_c97b9_0 10 rfl rfl)
theorem dJ5_append_c97b9_11 : decode cJ5_append_c97b9 11 = .ok (.istore_n 3, 1) := dz_62 (kBcJ5_append_c97b9_0 11 rfl rfl)
theorem dJ5_append_c97b9_12 : decode cJ5_append_c97b9 12 = .ok (.aload_n 0, 1) := dz_42 (kBcJ5_append_c97b9_0 12 rfl rfl)
theorem dJ5_append_c97b9_13 : decode cJ5_append_c97b9 13 = .ok (.iload_n 3, 1) := dz_29 (kBcJ5_append_c97b9_0 13 rfl rfl)
theorem dJ5_append_c97b9_14 : decode cJ5_append_c97b9 14 = .ok (.invokevirtual 100, 3) := dz_182 (kBcJ5_append_c97b9_0 14 rfl rfl) (kBcJ5_append_c97b9_0 15 rfl rfl) (kBcJ5_append_c97b9_0 16 rfl rfl) rfl
theorem dJ5_append_c97b9_17 : decode cJ5_append_c97b9 17 = .ok (.aload_n 0, 1) := dz_42 (kBcJ5_append_c97b9_0 17 rfl rfl)
theorem dJ5_append_c97b9_18 : decode cJ5_append_c97b9 18 = .ok (.invokevirtual 83, 3) := dz_182 (kBcJ5_append_c97b9_0 18 rfl rfl) (kBcJ5_append_c97b9_0 19 rfl rfl) (kBcJ5_append_c97b9_0 20 rfl rfl) rfl
theorem dJ5_append_c97b9_21 : decode cJ5_append_c97b9 21 = .ok (.ifCond .eq 16, 3) := dz_153 (kBcJ5_append_c97b9_0 21 rfl rfl) (kBcJ5_append_c97b9_0 22 rfl rfl) (kBcJ5_append_c97b9_0 23 rfl rfl) rfl
theorem dJ5_append_c97b9_24 : decode cJ5_append_c97b9 24 = .ok (.iload_n 1, 1) := dz_27 (kBcJ5_append_c97b9_0 24 rfl rfl)
theorem dJ5_append_c97b9_25 : decode cJ5_append_c97b9 25 = .ok (.iload_n 3, 1) := dz_29 (kBcJ5_append_c97b9_0 25 rfl rfl)
theorem dJ5_append_c97b9_26 : decode cJ5_append_c97b9 26 = .ok (.aload_n 0, 1) := dz_42 (kBcJ5_append_c97b9_0 26 rfl rfl)
theorem dJ5_append_c97b9_27 : decode cJ5_append_c97b9 27 = .ok (.getfield 15, 3) := dz_180 (kBcJ5_append_c97b9_0 27 rfl rfl) (kBcJ5_append_c97b9_0 28 rfl rfl) (kBcJ5_append_c97b9_0 29 rfl rfl) rfl
theorem dJ5_append_c97b9_30 : decode cJ5_append_c97b9 30 = .ok (.invokestatic 248, 3) := dz_184 (kBcJ5_append_c97b9_0 30 rfl rfl) (kBcJ5_append_c97b9_0 31 rfl rfl) (kBcJ5_append_c97b9_1 32 rfl rfl) rfl
theorem dJ5_append_c97b9_33 : decode cJ5_append_c97b9 33 = .ok (.pop, 1) := dz_87 (kBcJ5_append_c97b9_1 33 rfl rfl)
theorem dJ5_append_c97b9_34 : decode cJ5_append_c97b9 34 = .ok (.goto 14, 3) := dz_167 (kBcJ5_append_c97b9_1 34 rfl rfl) (kBcJ5_append_c97b9_1 35 rfl rfl) (kBcJ5_append_c97b9_1 36 rfl rfl) rfl
theorem dJ5_append_c97b9_37 : decode cJ5_append_c97b9 37 = .ok (.iload_n 1, 1) := dz_27 (kBcJ5_append_c97b9_1 37 rfl rfl)
theorem dJ5_append_c97b9_38 : decode cJ5_append_c97b9 38 = .ok (.iload_n 2, 1) := dz_28 (kBcJ5_append_c97b9_1 38 rfl rfl)
theorem dJ5_append_c97b9_39 : decode cJ5_append_c97b9 39 = .ok (.iload_n 3, 1) := dz_29 (kBcJ5_append_c97b9_1 39 rfl rfl)
theorem dJ5_append_c97b9_40 : decode cJ5_append_c97b9 40 = .ok (.aload_n 0, 1) := dz_42 (kBcJ5_append_c97b9_1 40 rfl rfl)
theorem dJ5_append_c97b9_41 : decode cJ5_append_c97b9 41 = .ok (.getfield 15, 3) := dz_180 (kBcJ5_append_c97b9_1 41 rfl rfl) (kBcJ5_append_c97b9_1 42 rfl rfl) (kBcJ5_append_c97b9_1 43 rfl rfl) rfl
theorem dJ5_append_c97b9_44 : decode cJ5_append_c97b9 44 = .ok (.invokestatic 251, 3) := dz_184 (kBcJ5_append_c97b9_1 44 rfl rfl) (kBcJ5_append_c97b9_1 45 rfl rfl) (kBcJ5_append_c97b9_1 46 rfl rfl) rfl
theorem dJ5_append_c97b9_47 : decode cJ5_append_c97b9 47 = .ok (.pop, 1) := dz_87 (kBcJ5_append_c97b9_1 47 rfl rfl)
theorem dJ5_append_c97b9_48 : decode cJ5_append_c97b9 48 = .ok (.aload_n 0, 1) := dz_42 (kBcJ5_append_c97b9_1 48 rfl rfl)
theorem dJ5_append_c97b9_49 : decode cJ5_append_c97b9 49 = .ok (.iload_n 3, 1) := dz_29 (kBcJ5_append_c97b9_1 49 rfl rfl)
theorem dJ5_append_c97b9_50 : decode cJ5_append_c97b9 50 = .ok (.putfield 79, 3) := dz_181 (kBcJ5_append_c97b9_1 50 rfl rfl) (kBcJ5_append_c97b9_1 51 rfl rfl) (kBcJ5_append_c97b9_1 52 rfl rfl) rfl
theorem dJ5_append_c97b9_53 : decode cJ5_append_c97b9 53 = .ok (.aload_n 0, 1) := dz_42 (kBcJ5_append_c97b9_1 53 rfl rfl)
theorem dJ5_append_c97b9_54 : decode cJ5_append_c97b9 54 = .ok (.areturn, 1) := dz_176 (kBcJ5_append_c97b9_1 54 rfl rfl)
def kCcJ5_append_66267_0 : List Nat := [42, 180, 0, 79, 62, 29, 31, 184, 0, 254, 96, 54, 4, 42, 21, 4, 182, 0, 100, 42, 182, 0, 83, 153, 0, 17, 31, 21, 4, 42, 180, 0]
def kCcJ5_append_66267_1 : List Nat := [15, 184, 1, 3, 87, 167, 0, 15, 31, 29, 21, 4, 42, 180, 0, 15, 184, 1, 6, 87, 42, 21, 4, 181, 0, 79, 42, 176]
def kRcJ5_append_66267_2 : List Nat := []
def kRcJ5_append_66267_1 : List Nat := kCcJ5_append_66267_1 ++ kRcJ5_append_66267_2
def kRcJ5_append_66267_0 : List Nat := kCcJ5_append_66267_0 ++ kRcJ5_append_66267_1
theorem kRcJ5_append_66267_eq : cJ5_append_66267.data.toList.map UInt8.toNat = kRcJ5_append_66267_0 := by decide +kernel
theorem katcJ5_append_66267_0 (i : Nat) : (cJ5_append_66267.data.toList.map UInt8.toNat)[0 + i]? = kRcJ5_append_66267_0[i]? := by rw [kRcJ5_append_66267_eq, Nat.zero_add]
theorem katcJ5_append_66267_1 : ∀ i : Nat, (cJ5_append_66267.data.toList.map UInt8.toNat)[32 + i]? = kRcJ5_append_66267_1[i]? := kstep katcJ5_append_66267_0 (C := kCcJ5_append_66267_0) rfl rfl
theorem kBcJ5_append_66267_0 {b : Nat} (p : Nat) (hp : Nat.ble 0 p = true) (h : kCcJ5_append_66267_0[p - 0]? = some b) : kb cJ5_append_66267 p b := kin katcJ5_append_66267_0 rfl hp h
theorem kBcJ5_append_66267_1 {b : Nat} (p : Nat) (hp : Nat.ble 32 p = true) (h : kCcJ5_append_66267_1[p - 32]? = some b) : kb cJ5_append_66267 p b := kin katcJ5_append_66267_1 rfl hp h
theorem dJ5_append_66267_0 : decode cJ5_append_66267 0 = .ok (.aload_n 0, 1) := dz_42 (kBcJ5_append_66267_0 0 rfl rfl)
theorem dJ5_append_66267_1 : decode cJ5_append_66267 1 = .ok (.getfield 79, 3) := dz_180 (kBcJ5_append_66267_0 1 rfl rfl) (kBcJ5_append_66267_0 2 rfl rfl) (kBcJ5_append_66267_0 3 rfl rfl) rfl
theorem dJ5_append_66267_4 : decode cJ5_append_66267 4 = .ok (.istore_n 3, 1) := dz_62 (kBcJ5_append_66267_0 4 rfl rfl)
theorem dJ5_append_66267_5 : decode cJ5_append_66267 5 = .ok (.iload_n 3, 1) := dz_29 (kBcJ5_append_66267_0 5 rfl rfl)
theorem dJ5_append_66267_6 : decode cJ5_append_66267 6 = .ok (.lload_n 1, 1) := dz_31 (kBcJ5_append_66267_0 6 rfl rfl)
theorem dJ5_append_66267_7 : decode cJ5_append_66267 7 = .ok (.invokestatic 254, 3) := dz_184 (kBcJ5_append_66267_0 7 rfl rfl) (kBcJ5_append_66267_0 8 rfl rfl) (kBcJ5_append_66267_0 9 rfl rfl) rfl
theorem dJ5_append_66267_10 : decode cJ5_append_66267 10 = .ok (.iadd, 1) := dz_96 (kBcJ5_append_66267_0 10 rfl rfl)
theorem dJ5_append_66267_11 : decode cJ5_append_66267 11 = .ok (.istore 4, 2) := dz_54 (kBcJ5_append_66267_0 11 rfl rfl) (kBcJ5_append_66267_0 12 rfl rfl)
theorem dJ5_append_66267_13 : decode cJ5_append_66267 13 = .ok (.aload_n 0, 1) := dz_42 (kBcJ5_append_66267_0 13 rfl rfl)
theorem dJ5_append_66267_14 : decode cJ5_append_66267 14 = .ok (.iload 4, 2) := dz_21 (kBcJ5_append_66267_0 14 rfl rfl) (kBcJ5_append_66267_0 15 rfl rfl)
theorem dJ5_append_66267_16 : decode cJ5_append_66267 16 = .ok (.invokevirtual 100, 3) := dz_182 (kBcJ5_append_66267_0 16 rfl rfl) (kBcJ5_append_66267_0 17 rfl rfl) (kBcJ5_append_66267_0 18 rfl rfl) rfl
theorem dJ5_append_66267_19 : decode cJ5_append_66267 19 = .ok (.aload_n 0, 1) := dz_42 (kBcJ5_append_66267_0 19 rfl rfl)
theorem dJ5_append_66267_20 : decode cJ5_append_66267 20 = .ok (.invokevirtual 83, 3) := dz_182 (kBcJ5_append_66267_0 20 rfl rfl) (kBcJ5_append_66267_0 21 rfl rfl) (kBcJ5_append_66267_0 22 rfl rfl) rfl
theorem dJ5_append_66267_23 : decode cJ5_append_66267 23 = .ok (.ifCond .eq 17, 3) := dz_153 (kBcJ5_append_66267_0 23 rfl rfl) (kBcJ5_append_66267_0 24 rfl rfl) (kBcJ5_append_66267_0 25 rfl rfl) rfl
theorem dJ5_append_66267_26 : decode cJ5_append_66267 26 = .ok (.lload_n 1, 1) := dz_31 (kBcJ5_append_66267_0 26 rfl rfl)
theorem dJ5_append_66267_27 : decode cJ5_append_66267 27 = .ok (.iload 4, 2) := dz_21 (kBcJ5_append_66267_0 27 rfl rfl) (kBcJ5_append_66267_0 28 rfl rfl)
theorem dJ5_append_66267_29 : decode cJ5_append_66267 29 = .ok (.aload_n 0, 1) := dz_42 (kBcJ5_append_66267_0 29 rfl rfl)
theorem dJ5_append_66267_30 : decode cJ5_append_66267 30 = .ok (.getfield 15, 3) := dz_180 (kBcJ5_append_66267_0 30 rfl rfl) (kBcJ5_append_66267_0 31 rfl rfl) (kBcJ5_append_66267_1 32 rfl rfl) rfl
theorem dJ5_append_66267_33 : decode cJ5_append_66267 33 = .ok (.invokestatic 259, 3) := dz_184 (kBcJ5_append_66267_1 33 rfl rfl) (kBcJ5_append_66267_1 34 rfl rfl) (kBcJ5_append_66267_1 35 rfl rfl) rfl
theorem dJ5_append_66267_36 : decode cJ5_append_66267 36 = .ok (.pop, 1) := dz_87 (kBcJ5_append_66267_1 36 rfl rfl)
theorem dJ5_append_66267_37 : decode cJ5_append_66267 37 = .ok (.goto 15, 3) := dz_167 (kBcJ5_append_66267_1 37 rfl rfl) (kBcJ5_append_66267_1 38 rfl rfl) (kBcJ5_append_66267_1 39 rfl rfl) rfl
theorem dJ5_append_66267_40 : decode cJ5_append_66267 40 = .ok (.lload_n 1, 1) := dz_31 (kBcJ5_append_66267_1 40 rfl rfl)
theorem dJ5_append_66267_41 : decode cJ5_append_66267 41 = .ok (.iload_n 3, 1) := dz_29 (kBcJ5_append_66267_1 41 rfl rfl)
theorem dJ5_append_66267_42 : decode cJ5_append_66267 42 = .ok (.iload 4, 2) := dz_21 (kBcJ5_append_66267_1 42 rfl rfl) (kBcJ5_append_66267_1 43 rfl rfl)
theorem dJ5_append_66267_44 : decode cJ5_append_66267 44 = .ok (.aload_n 0, 1) := dz_42 (kBcJ5_append_66267_1 44 rfl rfl)
theorem dJ5_append_66267_45 : decode cJ5_append_66267 45 = .ok (.getfield 15, 3) := dz_180 (kBcJ5_append_66267_1 45 rfl rfl) (kBcJ5_append_66267_1 46 rfl rfl) (kBcJ5_append_66267_1 47 rfl rfl) rfl
theorem dJ5_append_66267_48 : decode cJ5_append_66267 48 = .ok (.invokestatic 262, 3) := dz_184 (kBcJ5_append_66267_1 48 rfl rfl) (kBcJ5_append_66267_1 49 rfl rfl) (kBcJ5_append_66267_1 50 rfl rfl) rfl
theorem dJ5_append_66267_51 : decode cJ5_append_66267 51 = .ok (.pop, 1) := dz_87 (kBcJ5_append_66267_1 51 rfl rfl)
theorem dJ5_append_66267_52 : decode cJ5_append_66267 52 = .ok (.aload_n 0, 1) := dz_42 (kBcJ5_append_66267_1 52 rfl rfl)
theorem dJ5_append_66267_53 : decode cJ5_append_66267 53 = .ok (.iload 4, 2) := dz_21 (kBcJ5_append_66267_1 53 rfl rfl) (kBcJ5_append_66267_1 54 rfl rfl)
theorem dJ5_append_66267_55 : decode cJ5_append_66267 55 = .ok (.putfield 79, 3) := dz_181 (kBcJ5_append_66267_1 55 rfl rfl) (kBcJ5_append_66267_1 56 rfl rfl) (kBcJ5_append_66267_1 57 rfl rfl) rfl
theorem dJ5_append_66267_58 : decode cJ5_append_66267 58 = .ok (.aload_n 0, 1) := dz_42 (kBcJ5_append_66267_1 58 rfl rfl)
theorem dJ5_append_66267_59 : decode cJ5_append_66267 59 = .ok (.areturn, 1) := dz_176 (kBcJ5_append_66267_1 59 rfl rfl)
def kCcJ5_reverse_278bc_0 : List Nat := [42, 180, 0, 15, 76, 42, 180, 0, 79, 61, 28, 4, 100, 62, 42, 182, 0, 83, 153, 0, 50, 29, 4, 100, 4, 122, 54, 4, 21, 4, 155, 0]
def kCcJ5_reverse_278bc_1 : List Nat := [35, 29, 21, 4, 100, 54, 5, 43, 21, 4, 51, 54, 6, 43, 21, 4, 43, 21, 5, 51, 84, 43, 21, 5, 21, 6, 84, 132, 4, 255, 167, 255]
def kCcJ5_reverse_278bc_2 : List Nat := [222, 167, 0, 8, 43, 28, 184, 1, 102, 42, 176]
def kRcJ5_reverse_278bc_3 : List Nat := []
def kRcJ5_reverse_278bc_2 : List Nat := kCcJ5_reverse_278bc_2 ++ kRcJ5_reverse_278bc_3
def kRcJ5_reverse_278bc_1 : List Nat := kCcJ5_reverse_278bc_1 ++ kRcJ5_reverse_278bc_2
def kRcJ5_reverse_278bc_0 : List Nat := kCcJ5_reverse_278bc_0 ++ kRcJ5_reverse_278bc_1
theorem kRcJ5_reverse_278bc_eq : cJ5_reverse_278bc.data.toList.map UInt8.toNat = kRcJ5_reverse_278bc_0 := by decide +kernel
theorem katcJ5_reverse_278bc_0 (i : Nat) : (cJ5_reverse_278bc.data.toList.map UInt8.toNat)[0 + i]? = kRcJ5_reverse_278bc_0[i]? := by rw [kRcJ5_reverse_278bc_eq, Nat.zero_add]
theorem katcJ5_reverse_278bc_1 : ∀ i : Nat, (cJ5_reverse_278bc.data.toList.map UInt8.toNat)[32 + i]? = kRcJ5_reverse_278bc_1[i]? := kstep katcJ5_reverse_278bc_0 (C := kCcJ5_reverse_278bc_0) rfl rfl
theorem katcJ5_reverse_278bc_2 : ∀ i : Nat, (cJ5_reverse_278bc.data.toList.map UInt8.toNat)[64 + i]? = kRcJ5_reverse_278bc_2[i]? := kstep katcJ5_reverse_278bc_1 (C := kCcJ5_reverse_278bc_1) rfl rfl
theorem kBcJ5_reverse_278bc_0 {b : Nat} (p : Nat) (hp : Nat.ble 0 p = true) (h : kCcJ5_reverse_278bc_0[p - 0]? = some b) : kb cJ5_reverse_278bc p b := kin katcJ5_reverse_278bc_0 rfl hp h
theorem kBcJ5_reverse_278bc_1 {b : Nat} (p : Nat) (hp : Nat.ble 32 p = true) (h : kCcJ5_reverse_278bc_1[p - 32]? = some b) : kb cJ5_reverse_278bc p b := kin katcJ5_reverse_278bc_1 rfl hp h
theorem kBcJ5_reverse_278bc_2 {b : Nat} (p : Nat) (hp : Nat.ble 64 p = true) (h : kCcJ5_reverse_278bc_2[p - 64]? = some b) : kb cJ5_reverse_278bc p b := kin katcJ5_reverse_278bc_2 rfl hp h
theorem dJ5_reverse_278bc_0 : decode cJ5_reverse_278bc 0 = .ok (.aload_n 0, 1) := dz_42 (kBcJ5_reverse_278bc_0 0 rfl rfl)
theorem dJ5_reverse_278bc_1 : decode cJ5_reverse_278bc 1 = .ok (.getfield 15, 3) := dz_180 (kBcJ5_reverse_278bc_0 1 rfl rfl) (kBcJ5_reverse_278bc_0 2 rfl rfl) (kBcJ5_reverse_278bc_0 3 rfl rfl) rfl
theorem dJ5_reverse_278bc_4 : decode cJ5_reverse_278bc 4 = .ok (.astore_n 1, 1) := dz_76 (kBcJ5_reverse_278bc_0 4 rfl rfl)
theorem dJ5_reverse_278bc_5 : decode cJ5_reverse_278bc 5 = .ok (.aload_n 0, 1) := dz_42 (kBcJ5_reverse_278bc_0 5 rfl rfl)
theorem dJ5_reverse_278bc_6 : decode cJ5_reverse_278bc 6 = .ok (.getfield 79, 3) := dz_180 (kBcJ5_reverse_278bc_0 6 rfl rfl) (kBcJ5_reverse_278bc_0 7 rfl rfl) (kBcJ5_reverse_278bc_0 8 rfl rfl) rfl
theorem dJ5_reverse_278bc_9 : decode cJ5_reverse_278bc 9 = .ok (.istore_n 2, 1) := dz_61 (kBcJ5_reverse_278bc_0 9 rfl rfl)
theorem dJ5_reverse_278bc_10 : decode cJ5_reverse_278bc 10 = .ok (.iload_n 2, 1) := dz_28 (kBcJ5_reverse_278bc_0 10 rfl rfl)
theorem dJ5_reverse_278bc_11 : decode cJ5_reverse_278bc 11 = .ok (.iconst 1, 1) := dz_4 (kBcJ5_reverse_278bc_0 11 rfl rfl)
theorem dJ5_reverse_278bc_12 : decode cJ5_reverse_278bc 12 = .ok (.isub, 1) := dz_100 (kBcJ5_reverse_278bc_0 12 rfl rfl)
theorem dJ5_reverse_278bc_13 : decode cJ5_reverse_278bc 13 = .ok (.istore_n 3, 1) := dz_62 (kBcJ5_reverse_278bc_0 13 rfl rfl)
theorem dJ5_reverse_278bc_14 : decode cJ5_reverse_278bc 14 = .ok (.aload_n 0, 1) := dz_42 (kBcJ5_reverse_278bc_0 14 rfl rfl)
theorem dJ5_reverse_278bc_15 : decode cJ5_reverse_278bc 15 = .ok (.invokevirtual 83, 3) := dz_182 (kBcJ5_reverse_278bc_0 15 rfl rfl) (kBcJ5_reverse_278bc_0 16 rfl rfl) (kBcJ5_reverse_278bc_0 17 rfl rfl) rfl
theorem dJ5_reverse_278bc_18 : decode cJ5_reverse_278bc 18 = .ok (.ifCond .eq 50, 3) := dz_153 (kBcJ5_reverse_278bc_0 18 rfl rfl) (kBcJ5_reverse_278bc_0 19 rfl rfl) (kBcJ5_reverse_278bc_0 20 rfl rfl) rfl
theorem dJ5_reverse_278bc_21 : decode cJ5_reverse_278bc 21 = .ok (.iload_n 3, 1) := dz_29 (kBcJ5_reverse_278bc_0 21 rfl rfl)
theorem dJ5_reverse_278bc_22 : decode cJ5_reverse_278bc 22 = .ok (.iconst 1, 1) := dz_4 (kBcJ5_reverse_278bc_0 22 rfl rfl)
theorem dJ5_reverse_278bc_23 : decode cJ5_reverse_278bc 23 = .ok (.isub, 1) := dz_100 (kBcJ5_reverse_278bc_0 23 rfl rfl)
theorem dJ5_reverse_278bc_24 : decode cJ5_reverse_278bc 24 = .ok (.iconst 1, 1) := dz_4 (kBcJ5_reverse_278bc_0 24 rfl rfl)
theorem dJ5_reverse_278bc_25 : decode cJ5_reverse_278bc 25 = .ok (.ishr, 1) := dz_122 (kBcJ5_reverse_278bc_0 25 rfl rfl)
theorem dJ5_reverse_278bc_26 : decode cJ5_reverse_278bc 26 = .ok (.istore 4, 2) := dz_54 (kBcJ5_reverse_278bc_0 26 rfl rfl) (kBcJ5_reverse_278bc_0 27 rfl rfl)
theorem dJ5_reverse_278bc_28 : decode cJ5_reverse_278bc 28 = .ok (.iload 4, 2) := dz_21 (kBcJ5_reverse_278bc_0 28 rfl rfl) (kBcJ5_reverse_278bc_0 29 rfl rfl)
theorem dJ5_reverse_278bc_30 : decode cJ5_reverse_278bc 30 = .ok (.ifCond .lt 35, 3) := dz_155 (kBcJ5_reverse_278bc_0 30 rfl rfl) (kBcJ5_reverse_278bc_0 31 rfl rfl) (kBcJ5_reverse_278bc_1 32 rfl rfl) rfl
theorem dJ5_reverse_278bc_33 : decode cJ5_reverse_278bc 33 = .ok (.iload_n 3, 1) := dz_29 (kBcJ5_reverse_278bc_1 33 rfl rfl)
theorem dJ5_reverse_278bc_34 : decode cJ5_reverse_278bc 34 = .ok (.iload 4, 2) := dz_21 (kBcJ5_reverse_278bc_1 34 rfl rfl) (kBcJ5_reverse_278bc_1 35 rfl rfl)
theorem dJ5_reverse_278bc_36 : decode cJ5_reverse_278bc 36 = .ok (.isub, 1) := dz_100 (kBcJ5_reverse_278bc_1 36 rfl rfl)
theorem dJ5_reverse_278bc_37 : decode cJ5_reverse_278bc 37 = .ok (.istore 5, 2) := dz_54 (kBcJ5_reverse_278bc_1 37 rfl rfl) (kBcJ5_reverse_278bc_1 38 rfl rfl)
theorem dJ5_reverse_278bc_39 : decode cJ5_reverse_278bc 39 = .ok (.aload_n 1, 1) := dz_43 (kBcJ5_reverse_278bc_1 39 rfl rfl)
theorem dJ5_reverse_278bc_40 : decode cJ5_reverse_278bc 40 = .ok (.iload 4, 2) := dz_21 (kBcJ5_reverse_278bc_1 40 rfl rfl) (kBcJ5_reverse_278bc_1 41 rfl rfl)
theorem dJ5_reverse_278bc_42 : decode cJ5_reverse_278bc 42 = .ok (.baload, 1) := dz_51 (kBcJ5_reverse_278bc_1 42 rfl rfl)
theorem dJ5_reverse_278bc_43 : decode cJ5_reverse_278bc 43 = .ok (.istore 6, 2) := dz_54 (kBcJ5_reverse_278bc_1 43 rfl rfl) (kBcJ5_reverse_278bc_1 44 rfl rfl)
theorem dJ5_reverse_278bc_45 : decode cJ5_reverse_278bc 45 = .ok (.aload_n 1, 1) := dz_43 (kBcJ5_reverse_278bc_1 45 rfl rfl)
theorem dJ5_reverse_278bc_46 : decode cJ5_reverse_278bc 46 = .ok (.iload 4, 2) := dz_21 (kBcJ5_reverse_278bc_1 46 rfl rfl) (kBcJ5_reverse_278bc_1 47 rfl rfl)
theorem dJ5_reverse_278bc_48 : decode cJ5_reverse_278bc 48 = .ok (.aload_n 1, 1) := dz_43 (kBcJ5_reverse_278bc_1 48 rfl rfl)
theorem dJ5_reverse_278bc_49 : decode cJ5_reverse_278bc 49 = .ok (.iload 5, 2) := dz_21 (kBcJ5_reverse_278bc_1 49 rfl rfl) (kBcJ5_reverse_278bc_1 50 rfl rfl)
theorem dJ5_reverse_278bc_51 : decode cJ5_reverse_278bc 51 = .ok (.baload, 1) := dz_51 (kBcJ5_reverse_278bc_1 51 rfl rfl)
theorem dJ5_reverse_278bc_52 : decode cJ5_reverse_278bc 52 = .ok (.bastore, 1) := dz_84 (kBcJ5_reverse_278bc_1 52 rfl rfl)
theorem dJ5_reverse_278bc_53 : decode cJ5_reverse_278bc 53 = .ok (.aload_n 1, 1) := dz_43 (kBcJ5_reverse_278bc_1 53 rfl rfl)
theorem dJ5_reverse_278bc_54 : decode cJ5_reverse_278bc 54 = .ok (.iload 5, 2) := dz_21 (kBcJ5_reverse_278bc_1 54 rfl rfl) (kBcJ5_reverse_278bc_1 55 rfl rfl)
theorem dJ5_reverse_278bc_56 : decode cJ5_reverse_278bc 56 = .ok (.iload 6, 2) := dz_21 (kBcJ5_reverse_278bc_1 56 rfl rfl) (kBcJ5_reverse_278bc_1 57 rfl rfl)
theorem dJ5_reverse_278bc_58 : decode cJ5_reverse_278bc 58 = .ok (.bastore, 1) := dz_84 (kBcJ5_reverse_278bc_1 58 rfl rfl)
theorem dJ5_reverse_278bc_59 : decode cJ5_reverse_278bc 59 = .ok (.iinc 4 (-1), 3) := dz_132 (kBcJ5_reverse_278bc_1 59 rfl rfl) (kBcJ5_reverse_278bc_1 60 rfl rfl) (kBcJ5_reverse_278bc_1 61 rfl rfl) rfl
theorem dJ5_reverse_278bc_62 : decode cJ5_reverse_278bc 62 = .ok (.goto (-34), 3) := dz_167 (kBcJ5_reverse_278bc_1 62 rfl rfl) (kBcJ5_reverse_278bc_1 63 rfl rfl) (kBcJ5_reverse_278bc_2 64 rfl rfl) rfl
theorem dJ5_reverse_278bc_65 : decode cJ5_reverse_278bc 65 = .ok (.goto 8, 3) := dz_167 (kBcJ5_reverse_278bc_2 65 rfl rfl) (kBcJ5_reverse_278bc_2 66 rfl rfl) (kBcJ5_reverse_278bc_2 67 rfl rfl) rfl
theorem dJ5_reverse_278bc_68 : decode cJ5_reverse_278bc 68 = .ok (.aload_n 1, 1) := dz_43 (kBcJ5_reverse_278bc_2 68 rfl rfl)
theorem dJ5_reverse_278bc_69 : decode cJ5_reverse_278bc 69 = .ok (.iload_n 2, 1) := dz_28 (kBcJ5_reverse_278bc_2 69 rfl rfl)
theorem dJ5_reverse_278bc_70 : decode cJ5_reverse_278bc 70 = .ok (.invokestatic 358, 3) := dz_184 (kBcJ5_reverse_278bc_2 70 rfl rfl) (kBcJ5_reverse_278bc_2 71 rfl rfl) (kBcJ5_reverse_278bc_2 72 rfl rfl) rfl
theorem dJ5_reverse_278bc_73 : decode cJ5_reverse_278bc 73 = .ok (.aload_n 0, 1) := dz_42 (kBcJ5_reverse_278bc_2 73 rfl rfl)
theorem dJ5_reverse_278bc_74 : decode cJ5_reverse_278bc 74 = .ok (.areturn, 1) := dz_176 (kBcJ5_reverse_278bc_2 74 rfl rfl)
def kCcJ5_getValue_6d5f1_0 : List Nat := [42, 180, 0, 15, 176]
theorem kRcJ5_getValue_6d5f1_eq : cJ5_getValue_6d5f1.data.toList.map UInt8.toNat = kCcJ5_getValue_6d5f1_0 := by decide +kernel
theorem dJ5_getValue_6d5f1_0 : decode cJ5_getValue_6d5f1 0 = .ok (.aload_n 0, 1) := dz_42 (kin0 (p := 0) kRcJ5_getValue_6d5f1_eq rfl)
theorem dJ5_getValue_6d5f1_1 : decode cJ5_getValue_6d5f1 1 = .ok (.getfield 15, 3) := dz_180 (kin0 (p := 1) kRcJ5_getValue_6d5f1_eq rfl) (kin0 (p := 2) kRcJ5_getValue_6d5f1_eq rfl) (kin0 (p := 3) kRcJ5_getValue_6d5f1_eq rfl) rfl
theorem dJ5_getValue_6d5f1_4 : decode cJ5_getValue_6d5f1 4 = .ok (.areturn, 1) := dz_176 (kin0 (p := 4) kRcJ5_getValue_6d5f1_eq rfl)
def kCcJ5_isLatin1_aae02_0 : List Nat := [178, 0, 18, 153, 0, 14, 42, 180, 0, 22, 154, 0, 7, 4, 167, 0, 4, 3, 172]
theorem kRcJ5_isLatin1_aae02_eq : cJ5_isLatin1_aae02.data.toList.map UInt8.toNat = kCcJ5_isLatin1_aae02_0 := by decide +kernel
theorem dJ5_isLatin1_aae02_0 : decode cJ5_isLatin1_aae02 0 = .ok (.getstatic 18, 3) := dz_178 (kin0 (p := 0) kRcJ5_isLatin1_aae02_eq rfl) (kin0 (p := 1) kRcJ5_isLatin1_aae02_eq rfl) (kin0 (p := 2) kRcJ5_isLatin1_aae02_eq rfl) rfl
theorem dJ5_isLatin1_aae02_3 : decode cJ5_isLatin1_aae02 3 = .ok (.ifCond .eq 14, 3) := dz_153 (kin0 (p := 3) kRcJ5_isLatin1_aae02_eq rfl) (kin0 (p := 4) kRcJ5_isLatin1_aae02_eq rfl) (kin0 (p := 5) kRcJ5_isLatin1_aae02_eq rfl) rfl
theorem dJ5_isLatin1_aae02_6 : decode cJ5_isLatin1_aae02 6 = .ok (.aload_n 0, 1) := dz_42 (kin0 (p := 6) kRcJ5_isLatin1_aae02_eq rfl)
theorem dJ5_isLatin1_aae02_7 : decode cJ5_isLatin1_aae02 7 = .ok (.getfield 22, 3) := dz_180 (kin0 (p := 7) kRcJ5_isLatin1_aae02_eq rfl) (kin0 (p := 8) kRcJ5_isLatin1_aae02_eq rfl) (kin0 (p := 9) kRcJ5_isLatin1_aae02_eq rfl) rfl
theorem dJ5_isLatin1_aae02_10 : decode cJ5_isLatin1_aae02 10 = .ok (.ifCond .ne 7, 3) := dz_154 (kin0 (p := 10) kRcJ5_isLatin1_aae02_eq rfl) (kin0 (p := 11) kRcJ5_isLatin1_aae02_eq rfl) (kin0 (p := 12) kRcJ5_isLatin1_aae02_eq rfl) rfl
theorem dJ5_isLatin1_aae02_13 : decode cJ5_isLatin1_aae02 13 = .ok (.iconst 1, 1) := dz_4 (kin0 (p := 13) kRcJ5_isLatin1_aae02_eq rfl)
theorem dJ5_isLatin1_aae02_14 : decode cJ5_isLatin1_aae02 14 = .ok (.goto 4, 3) := dz_167 (kin0 (p := 14) kRcJ5_isLatin1_aae02_eq rfl) (kin0 (p := 15) kRcJ5_isLatin1_aae02_eq rfl) (kin0 (p := 16) kRcJ5_isLatin1_aae02_eq rfl) rfl
theorem dJ5_isLatin1_aae02_17 : decode cJ5_isLatin1_aae02 17 = .ok (.iconst 0, 1) := dz_3 (kin0 (p := 17) kRcJ5_isLatin1_aae02_eq rfl)
theorem dJ5_isLatin1_aae02_18 : decode cJ5_isLatin1_aae02 18 = .ok (.ireturn, 1) := dz_172 (kin0 (p := 18) kRcJ5_isLatin1_aae02_eq rfl)
def kCcJ5_inflateIfNeededFor_a7421_0 : List Nat := [178, 0, 18, 153, 0, 18, 42, 180, 0, 22, 43, 182, 0, 40, 159, 0, 7, 42, 182, 0, 195, 177]
theorem kRcJ5_inflateIfNeededFor_a7421_eq : cJ5_inflateIfNeededFor_a7421.data.toList.map UInt8.toNat = kCcJ5_inflateIfNeededFor_a7421_0 := by decide +kernel
theorem dJ5_inflateIfNeededFor_a7421_0 : decode cJ5_inflateIfNeededFor_a7421 0 = .ok (.getstatic 18, 3) := dz_178 (kin0 (p := 0) kRcJ5_inflateIfNeededFor_a7421_eq rfl) (kin0 (p := 1) kRcJ5_inflateIfNeededFor_a7421_eq rfl) (kin0 (p := 2) kRcJ5_inflateIfNeededFor_a7421_eq rfl) rfl
theorem dJ5_inflateIfNeededFor_a7421_3 : decode cJ5_inflateIfNeededFor_a7421 3 = .ok (.ifCond .eq 18, 3) := dz_153 (kin0 (p := 3) kRcJ5_inflateIfNeededFor_a7421_eq rfl) (kin0 (p := 4) kRcJ5_inflateIfNeededFor_a7421_eq rfl) (kin0 (p := 5) kRcJ5_inflateIfNeededFor_a7421_eq rfl) rfl
theorem dJ5_inflateIfNeededFor_a7421_6 : decode cJ5_inflateIfNeededFor_a7421 6 = .ok (.aload_n 0, 1) := dz_42 (kin0 (p := 6) kRcJ5_inflateIfNeededFor_a7421_eq rfl)
theorem dJ5_inflateIfNeededFor_a7421_7 : decode cJ5_inflateIfNeededFor_a7421 7 = .ok (.getfield 22, 3) := dz_180 (kin0 (p := 7) kRcJ5_inflateIfNeededFor_a7421_eq rfl) (kin0 (p := 8) kRcJ5_inflateIfNeededFor_a7421_eq rfl) (kin0 (p := 9) kRcJ5_inflateIfNeededFor_a7421_eq rfl) rfl
theorem dJ5_inflateIfNeededFor_a7421_10 : decode cJ5_inflateIfNeededFor_a7421 10 = .ok (.aload_n 1, 1) := dz_43 (kin0 (p := 10) kRcJ5_inflateIfNeededFor_a7421_eq rfl)
theorem dJ5_inflateIfNeededFor_a7421_11 : decode cJ5_inflateIfNeededFor_a7421 11 = .ok (.invokevirtual 40, 3) := dz_182 (kin0 (p := 11) kRcJ5_inflateIfNeededFor_a7421_eq rfl) (kin0 (p := 12) kRcJ5_inflateIfNeededFor_a7421_eq rfl) (kin0 (p := 13) kRcJ5_inflateIfNeededFor_a7421_eq rfl) rfl
theorem dJ5_inflateIfNeededFor_a7421_14 : decode cJ5_inflateIfNeededFor_a7421 14 = .ok (.if_icmp .eq 7, 3) := dz_159 (kin0 (p := 14) kRcJ5_inflateIfNeededFor_a7421_eq rfl) (kin0 (p := 15) kRcJ5_inflateIfNeededFor_a7421_eq rfl) (kin0 (p := 16) kRcJ5_inflateIfNeededFor_a7421_eq rfl) rfl
theorem dJ5_inflateIfNeededFor_a7421_17 : decode cJ5_inflateIfNeededFor_a7421 17 = .ok (.aload_n 0, 1) := dz_42 (kin0 (p := 17) kRcJ5_inflateIfNeededFor_a7421_eq rfl)
theorem dJ5_inflateIfNeededFor_a7421_18 : decode cJ5_inflateIfNeededFor_a7421 18 = .ok (.invokevirtual 195, 3) := dz_182 (kin0 (p := 18) kRcJ5_inflateIfNeededFor_a7421_eq rfl) (kin0 (p := 19) kRcJ5_inflateIfNeededFor_a7421_eq rfl) (kin0 (p := 20) kRcJ5_inflateIfNeededFor_a7421_eq rfl) rfl
theorem dJ5_inflateIfNeededFor_a7421_21 : decode cJ5_inflateIfNeededFor_a7421 21 = .ok (.return_, 1) := dz_177 (kin0 (p := 21) kRcJ5_inflateIfNeededFor_a7421_eq rfl)
def kCcJ5_putStringAt_47b60_0 : List Nat := [42, 44, 182, 1, 141, 44, 42, 180, 0, 15, 27, 42, 180, 0, 22, 182, 1, 143, 177]
theorem kRcJ5_putStringAt_47b60_eq : cJ5_putStringAt_47b60.data.toList.map UInt8.toNat = kCcJ5_putStringAt_47b60_0 := by decide +kernel
theorem dJ5_putStringAt_47b60_0 : decode cJ5_putStringAt_47b60 0 = .ok (.aload_n 0, 1) := dz_42 (kin0 (p := 0) kRcJ5_putStringAt_47b60_eq rfl)
theorem dJ5_putStringAt_47b60_1 : decode cJ5_putStringAt_47b60 1 = .ok (.aload_n 2, 1) := dz_44 (kin0 (p := 1) kRcJ5_putStringAt_47b60_eq rfl)
theorem dJ5_putStringAt_47b60_2 : decode cJ5_putStringAt_47b60 2 = .ok (.invokevirtual 397, 3) := dz_182 (kin0 (p := 2) kRcJ5_putStringAt_47b60_eq rfl) (kin0 (p := 3) kRcJ5_putStringAt_47b60_eq rfl) (kin0 (p := 4) kRcJ5_putStringAt_47b60_eq rfl) rfl
theorem dJ5_putStringAt_47b60_5 : decode cJ5_putStringAt_47b60 5 = .ok (.aload_n 2, 1) := dz_44 (kin0 (p := 5) kRcJ5_putStringAt_47b60_eq rfl)
theorem dJ5_putStringAt_47b60_6 : decode cJ5_putStringAt_47b60 6 = .ok (.aload_n 0, 1) := dz_42 (kin0 (p := 6) kRcJ5_putStringAt_47b60_eq rfl)
theorem dJ5_putStringAt_47b60_7 : decode cJ5_putStringAt_47b60 7 = .ok (.getfield 15, 3) := dz_180 (kin0 (p := 7) kRcJ5_putStringAt_47b60_eq rfl) (kin0 (p := 8) kRcJ5_putStringAt_47b60_eq rfl) (kin0 (p := 9) kRcJ5_putStringAt_47b60_eq rfl) rfl
theorem dJ5_putStringAt_47b60_10 : decode cJ5_putStringAt_47b60 10 = .ok (.iload_n 1, 1) := dz_27 (kin0 (p := 10) kRcJ5_putStringAt_47b60_eq rfl)
theorem dJ5_putStringAt_47b60_11 : decode cJ5_putStringAt_47b60 11 = .ok (.aload_n 0, 1) := dz_42 (kin0 (p := 11) kRcJ5_putStringAt_47b60_eq rfl)
theorem dJ5_putStringAt_47b60_12 : decode cJ5_putStringAt_47b60 12 = .ok (.getfield 22, 3) := dz_180 (kin0 (p := 12) kRcJ5_putStringAt_47b60_eq rfl) (kin0 (p := 13) kRcJ5_putStringAt_47b60_eq rfl) (kin0 (p := 14) kRcJ5_putStringAt_47b60_eq rfl) rfl
theorem dJ5_putStringAt_47b60_15 : decode cJ5_putStringAt_47b60 15 = .ok (.invokevirtual 399, 3) := dz_182 (kin0 (p := 15) kRcJ5_putStringAt_47b60_eq rfl) (kin0 (p := 16) kRcJ5_putStringAt_47b60_eq rfl) (kin0 (p := 17) kRcJ5_putStringAt_47b60_eq rfl) rfl
theorem dJ5_putStringAt_47b60_18 : decode cJ5_putStringAt_47b60 18 = .ok (.return_, 1) := dz_177 (kin0 (p := 18) kRcJ5_putStringAt_47b60_eq rfl)
def kCcJx00060_init_d00df_0 : List Nat := [42, 187, 0, 10, 89, 183, 0, 12, 18, 13, 182, 0, 15, 27, 182, 0, 19, 182, 0, 22, 183, 0, 7, 177]
theorem kRcJx00060_init_d00df_eq : cJx00060_init_d00df.data.toList.map UInt8.toNat = kCcJx00060_init_d00df_0 := by decide +kernel
theorem dJx00060_init_d00df_0 : decode cJx00060_init_d00df 0 = .ok (.aload_n 0, 1) := dz_42 (kin0 (p := 0) kRcJx00060_init_d00df_eq rfl)
theorem dJx00060_init_d00df_1 : decode cJx00060_init_d00df 1 = .ok (.new 10, 3) := dz_187 (kin0 (p := 1) kRcJx00060_init_d00df_eq rfl) (kin0 (p := 2) kRcJx00060_init_d00df_eq rfl) (kin0 (p := 3) kRcJx00060_init_d00df_eq rfl) rfl
theorem dJx00060_init_d00df_4 : decode cJx00060_init_d00df 4 = .ok (.dup, 1) := dz_89 (kin0 (p := 4) kRcJx00060_init_d00df_eq rfl)
theorem dJx00060_init_d00df_5 : decode cJx00060_init_d00df 5 = .ok (.invokespecial 12, 3) := dz_183 (kin0 (p := 5) kRcJx00060_init_d00df_eq rfl) (kin0 (p := 6) kRcJx00060_init_d00df_eq rfl) (kin0 (p := 7) kRcJx00060_init_d00df_eq rfl) rfl
theorem dJx00060_init_d00df_8 : decode cJx00060_init_d00df 8 = .ok (.ldc 13, 2) := dz_18 (kin0 (p := 8) kRcJx00060_init_d00df_eq rfl) (kin0 (p := 9) kRcJx00060_init_d00df_eq rfl)
theorem dJx00060_init_d00df_10 : decode cJx00060_init_d00df 10 = .ok (.invokevirtual 15, 3) := dz_182 (kin0 (p := 10) kRcJx00060_init_d00df_eq rfl) (kin0 (p := 11) kRcJx00060_init_d00df_eq rfl) (kin0 (p := 12) kRcJx00060_init_d00df_eq rfl) rfl
theorem dJx00060_init_d00df_13 : decode cJx00060_init_d00df 13 = .ok (.iload_n 1, 1) := dz_27 (kin0 (p := 13) kRcJx00060_init_d00df_eq rfl)
theorem dJx00060_init_d00df_14 : decode cJx00060_init_d00df 14 = .ok (.invokevirtual 19, 3) := dz_182 (kin0 (p := 14) kRcJx00060_init_d00df_eq rfl) (kin0 (p := 15) kRcJx00060_init_d00df_eq rfl) (kin0 (p := 16) kRcJx00060_init_d00df_eq rfl) rfl
theorem dJx00060_init_d00df_17 : decode cJx00060_init_d00df 17 = .ok (.invokevirtual 22, 3) := dz_182 (kin0 (p := 17) kRcJx00060_init_d00df_eq rfl) (kin0 (p := 18) kRcJx00060_init_d00df_eq rfl) (kin0 (p := 19) kRcJx00060_init_d00df_eq rfl) rfl
theorem dJx00060_init_d00df_20 : decode cJx00060_init_d00df 20 = .ok (.invokespecial 7, 3) := dz_183 (kin0 (p := 20) kRcJx00060_init_d00df_eq rfl) (kin0 (p := 21) kRcJx00060_init_d00df_eq rfl) (kin0 (p := 22) kRcJx00060_init_d00df_eq rfl) rfl
theorem dJx00060_init_d00df_23 : decode cJx00060_init_d00df 23 = .ok (.return_, 1) := dz_177 (kin0 (p := 23) kRcJx00060_init_d00df_eq rfl)
def kCcJ11_isHighSurrogate_fc78d_0 : List Nat := [26, 18, 75, 161, 0, 13, 26, 18, 76, 162, 0, 7, 4, 167, 0, 4, 3, 172]
theorem kRcJ11_isHighSurrogate_fc78d_eq : cJ11_isHighSurrogate_fc78d.data.toList.map UInt8.toNat = kCcJ11_isHighSurrogate_fc78d_0 := by decide +kernel
theorem dJ11_isHighSurrogate_fc78d_0 : decode cJ11_isHighSurrogate_fc78d 0 = .ok (.iload_n 0, 1) := dz_26 (kin0 (p := 0) kRcJ11_isHighSurrogate_fc78d_eq rfl)
theorem dJ11_isHighSurrogate_fc78d_1 : decode cJ11_isHighSurrogate_fc78d 1 = .ok (.ldc 75, 2) := dz_18 (kin0 (p := 1) kRcJ11_isHighSurrogate_fc78d_eq rfl) (kin0 (p := 2) kRcJ11_isHighSurrogate_fc78d_eq rfl)
theorem dJ11_isHighSurrogate_fc78d_3 : decode cJ11_isHighSurrogate_fc78d 3 = .ok (.if_icmp .lt 13, 3) := dz_161 (kin0 (p := 3) kRcJ11_isHighSurrogate_fc78d_eq rfl) (kin0 (p := 4) kRcJ11_isHighSurrogate_fc78d_eq rfl) (kin0 (p := 5) kRcJ11_isHighSurrogate_fc78d_eq rfl) rfl
theorem dJ11_isHighSurrogate_fc78d_6 : decode cJ11_isHighSurrogate_fc78d 6 = .ok (.iload_n 0, 1) := dz_26 (kin0 (p := 6) kRcJ11_isHighSurrogate_fc78d_eq rfl)
theorem dJ11_isHighSurrogate_fc78d_7 : decode cJ11_isHighSurrogate_fc78d 7 = .ok (.ldc 76, 2) := dz_18 (kin0 (p := 7) kRcJ11_isHighSurrogate_fc78d_eq rfl) (kin0 (p := 8) kRcJ11_isHighSurrogate_fc78d_eq rfl)
theorem dJ11_isHighSurrogate_fc78d_9 : decode cJ11_isHighSurrogate_fc78d 9 = .ok (.if_icmp .ge 7, 3) := dz_162 (kin0 (p := 9) kRcJ11_isHighSurrogate_fc78d_eq rfl) (kin0 (p := 10) kRcJ11_isHighSurrogate_fc78d_eq rfl) (kin0 (p := 11) kRcJ11_isHighSurrogate_fc78d_eq rfl) rfl
theorem dJ11_isHighSurrogate_fc78d_12 : decode cJ11_isHighSurrogate_fc78d 12 = .ok (.iconst 1, 1) := dz_4 (kin0 (p := 12) kRcJ11_isHighSurrogate_fc78d_eq rfl)
theorem dJ11_isHighSurrogate_fc78d_13 : decode cJ11_isHighSurrogate_fc78d 13 = .ok (.goto 4, 3) := dz_167 (kin0 (p := 13) kRcJ11_isHighSurrogate_fc78d_eq rfl) (kin0 (p := 14) kRcJ11_isHighSurrogate_fc78d_eq rfl) (kin0 (p := 15) kRcJ11_isHighSurrogate_fc78d_eq rfl) rfl
theorem dJ11_isHighSurrogate_fc78d_16 : decode cJ11_isHighSurrogate_fc78d 16 = .ok (.iconst 0, 1) := dz_3 (kin0 (p := 16) kRcJ11_isHighSurrogate_fc78d_eq rfl)
theorem dJ11_isHighSurrogate_fc78d_17 : decode cJ11_isHighSurrogate_fc78d 17 = .ok (.ireturn, 1) := dz_172 (kin0 (p := 17) kRcJ11_isHighSurrogate_fc78d_eq rfl)
def kCcJ11_isLowSurrogate_fc78d_0 : List Nat := [26, 18, 76, 161, 0, 13, 26, 18, 77, 162, 0, 7, 4, 167, 0, 4, 3, 172]
theorem kRcJ11_isLowSurrogate_fc78d_eq : cJ11_isLowSurrogate_fc78d.data.toList.map UInt8.toNat = kCcJ11_isLowSurrogate_fc78d_0 := by decide +kernel
theorem dJ11_isLowSurrogate_fc78d_0 : decode cJ11_isLowSurrogate_fc78d 0 = .ok (.iload_n 0, 1) := dz_26 (kin0 (p := 0) kRcJ11_isLowSurrogate_fc78d_eq rfl)
theorem dJ11_isLowSurrogate_fc78d_1 : decode cJ11_isLowSurrogate_fc78d 1 = .ok (.ldc 76, 2) := dz_18 (kin0 (p := 1) kRcJ11_isLowSurrogate_fc78d_eq rfl) (kin0 (p := 2) kRcJ11_isLowSurrogate_fc78d_eq rfl)
theorem dJ11_isLowSurrogate_fc78d_3 : decode cJ11_isLowSurrogate_fc78d 3 = .ok (.if_icmp .lt 13, 3) := dz_161 (kin0 (p := 3) kRcJ11_isLowSurrogate_fc78d_eq rfl) (kin0 (p := 4) kRcJ11_isLowSurrogate_fc78d_eq rfl) (kin0 (p := 5) kRcJ11_isLowSurrogate_fc78d_eq rfl) rfl
theorem dJ11_isLowSurrogate_fc78d_6 : decode cJ11_isLowSurrogate_fc78d 6 = .ok (.iload_n 0, 1) := dz_26 (kin0 (p := 6) kRcJ11_isLowSurrogate_fc78d_eq rfl)
theorem dJ11_isLowSurrogate_fc78d_7 : decode cJ11_isLowSurrogate_fc78d 7 = .ok (.ldc 77, 2) := dz_18 (kin0 (p := 7) kRcJ11_isLowSurrogate_fc78d_eq rfl) (kin0 (p := 8) kRcJ11_isLowSurrogate_fc78d_eq rfl)
theorem dJ11_isLowSurrogate_fc78d_9 : decode cJ11_isLowSurrogate_fc78d 9 = .ok (.if_icmp .ge 7, 3) := dz_162 (kin0 (p := 9) kRcJ11_isLowSurrogate_fc78d_eq rfl) (kin0 (p := 10) kRcJ11_isLowSurrogate_fc78d_eq rfl) (kin0 (p := 11) kRcJ11_isLowSurrogate_fc78d_eq rfl) rfl
theorem dJ11_isLowSurrogate_fc78d_12 : decode cJ11_isLowSurrogate_fc78d 12 = .ok (.iconst 1, 1) := dz_4 (kin0 (p := 12) kRcJ11_isLowSurrogate_fc78d_eq rfl)
theorem dJ11_isLowSurrogate_fc78d_13 : decode cJ11_isLowSurrogate_fc78d 13 = .ok (.goto 4, 3) := dz_167 (kin0 (p := 13) kRcJ11_isLowSurrogate_fc78d_eq rfl) (kin0 (p := 14) kRcJ11_isLowSurrogate_fc78d_eq rfl) (kin0 (p := 15) kRcJ11_isLowSurrogate_fc78d_eq rfl) rfl
theorem dJ11_isLowSurrogate_fc78d_16 : decode cJ11_isLowSurrogate_fc78d 16 = .ok (.iconst 0, 1) := dz_3 (kin0 (p := 16) kRcJ11_isLowSurrogate_fc78d_eq rfl)
theorem dJ11_isLowSurrogate_fc78d_17 : decode cJ11_isLowSurrogate_fc78d 17 = .ok (.ireturn, 1) := dz_172 (kin0 (p := 17) kRcJ11_isLowSurrogate_fc78d_eq rfl)
def kCcJ11_isSurrogate_fc78d_0 : List Nat := [26, 18, 75, 161, 0, 13, 26, 18, 77, 162, 0, 7, 4, 167, 0, 4, 3, 172]
theorem kRcJ11_isSurrogate_fc78d_eq : cJ11_isSurrogate_fc78d.data.toList.map UInt8.toNat = kCcJ11_isSurrogate_fc78d_0 := by decide +kernel
theorem dJ11_isSurrogate_fc78d_0 : decode cJ11_isSurrogate_fc78d 0 = .ok (.iload_n 0, 1) := dz_26 (kin0 (p := 0) kRcJ11_isSurrogate_fc78d_eq rfl)
theorem dJ11_isSurrogate_fc78d_1 : decode cJ11_isSurrogate_fc78d 1 = .ok (.ldc 75, 2) := dz_18 (kin0 (p := 1) kRcJ11_isSurrogate_fc78d_eq rfl) (kin0 (p := 2) kRcJ11_isSurrogate_fc78d_eq rfl)
theorem dJ11_isSurrogate_fc78d_3 : decode cJ11_isSurrogate_fc78d 3 = .ok (.if_icmp .lt 13, 3) := dz_161 (kin0 (p := 3) kRcJ11_isSurrogate_fc78d_eq rfl) (kin0 (p := 4) kRcJ11_isSurrogate_fc78d_eq rfl) (kin0 (p := 5) kRcJ11_isSurrogate_fc78d_eq rfl) rfl
theorem dJ11_isSurrogate_fc78d_6 : decode cJ11_isSurrogate_fc78d 6 = .ok (.iload_n 0, 1) := dz_26 (kin0 (p := 6) kRcJ11_isSurrogate_fc78d_eq rfl)
theorem dJ11_isSurrogate_fc78d_7 : decode cJ11_isSurrogate_fc78d 7 = .ok (.ldc 77, 2) := dz_18 (kin0 (p := 7) kRcJ11_isSurrogate_fc78d_eq rfl) (kin0 (p := 8) kRcJ11_isSurrogate_fc78d_eq rfl)
theorem dJ11_isSurrogate_fc78d_9 : decode cJ11_isSurrogate_fc78d 9 = .ok (.if_icmp .ge 7, 3) := dz_162 (kin0 (p := 9) kRcJ11_isSurrogate_fc78d_eq rfl) (kin0 (p := 10) kRcJ11_isSurrogate_fc78d_eq rfl) (kin0 (p := 11) kRcJ11_isSurrogate_fc78d_eq rfl) rfl
theorem dJ11_isSurrogate_fc78d_12 : decode cJ11_isSurrogate_fc78d 12 = .ok (.iconst 1, 1) := dz_4 (kin0 (p := 12) kRcJ11_isSurrogate_fc78d_eq rfl)
theorem dJ11_isSurrogate_fc78d_13 : decode cJ11_isSurrogate_fc78d 13 = .ok (.goto 4, 3) := dz_167 (kin0 (p := 13) kRcJ11_isSurrogate_fc78d_eq rfl) (kin0 (p := 14) kRcJ11_isSurrogate_fc78d_eq rfl) (kin0 (p := 15) kRcJ11_isSurrogate_fc78d_eq rfl) rfl
theorem dJ11_isSurrogate_fc78d_16 : decode cJ11_isSurrogate_fc78d 16 = .ok (.iconst 0, 1) := dz_3 (kin0 (p := 16) kRcJ11_isSurrogate_fc78d_eq rfl)
theorem dJ11_isSurrogate_fc78d_17 : decode cJ11_isSurrogate_fc78d 17 = .ok (.ireturn, 1) := dz_172 (kin0 (p := 17) kRcJ11_isSurrogate_fc78d_eq rfl)
def kCcJ6_getChars_ba4f3_0 : List Nat := [27, 54, 5, 26, 156, 0, 7, 4, 167, 0, 4, 3, 54, 6, 21, 6, 154, 0, 6, 26, 116, 59, 26, 16, 156, 163, 0, 47, 26, 16, 100, 108]
def kCcJ6_getChars_ba4f3_1 : List Nat := [62, 29, 16, 100, 104, 26, 100, 54, 4, 29, 59, 44, 132, 5, 255, 21, 5, 178, 0, 83, 21, 4, 51, 84, 44, 132, 5, 255, 21, 5, 178, 0]
def kCcJ6_getChars_ba4f3_2 : List Nat := [87, 21, 4, 51, 84, 167, 255, 209, 44, 132, 5, 255, 21, 5, 178, 0, 83, 26, 116, 51, 84, 26, 16, 247, 162, 0, 16, 44, 132, 5, 255, 21]
def kCcJ6_getChars_ba4f3_3 : List Nat := [5, 178, 0, 87, 26, 116, 51, 84, 21, 6, 153, 0, 12, 44, 132, 5, 255, 21, 5, 16, 45, 84, 21, 5, 172]
def kRcJ6_getChars_ba4f3_4 : List Nat := []
def kRcJ6_getChars_ba4f3_3 : List Nat := kCcJ6_getChars_ba4f3_3 ++ kRcJ6_getChars_ba4f3_4
def kRcJ6_getChars_ba4f3_2 : List Nat := kCcJ6_getChars_ba4f3_2 ++ kRcJ6_getChars_ba4f3_3
def kRcJ6_getChars_ba4f3_1 : List Nat := kCcJ6_getChars_ba4f3_1 ++ kRcJ6_getChars_ba4f3_2
def kRcJ6_getChars_ba4f3_0 : List Nat := kCcJ6_getChars_ba4f3_0 ++ kRcJ6_getChars_ba4f3_1
theorem kRcJ6_getChars_ba4f3_eq : cJ6_getChars_ba4f3.data.toList.map UInt8.toNat = kRcJ6_getChars_ba4f3_0 := by decide +kernel
theorem katcJ6_getChars_ba4f3_0 (i : Nat) : (cJ6_getChars_ba4f3.data.toList.map UInt8.toNat)[0 + i]? = kRcJ6_getChars_ba4f3_0[i]? := by rw [kRcJ6_getChars_ba4f3_eq, Nat.zero_add]
theorem katcJ6_getChars_ba4f3_1 : ∀ i : Nat, (cJ6_getChars_ba4f3.data.toList.map UInt8.toNat)[32 + i]? = kRcJ6_getChars_ba4f3_1[i]? := kstep katcJ6_getChars_ba4f3_0 (C := kCcJ6_getChars_ba4f3_0) rfl rfl
theorem katcJ6_getChars_ba4f3_2 : ∀ i : Nat, (cJ6_getChars_ba4f3.data.toList.map UInt8.toNat)[64 + i]? = kRcJ6_getChars_ba4f3_2[i]? := kstep katcJ6_getChars_ba4f3_1 (C := kCcJ6_getChars_ba4f3_1) rfl rfl
theorem katcJ6_getChars_ba4f3_3 : ∀ i : Nat, (cJ6_getChars_ba4f3.data.toList.map UInt8.toNat)[96 + i]? = kRcJ6_getChars_ba4f3_3[i]? := kstep katcJ6_getChars_ba4f3_2 (C := kCcJ6_getChars_ba4f3_2) rfl rfl
theorem kBcJ6_getChars_ba4f3_0 {b : Nat} (p : Nat) (hp : Nat.ble 0 p = true) (h : kCcJ6_getChars_ba4f3_0[p - 0]? = some b) : kb cJ6_getChars_ba4f3 p b := kin katcJ6_getChars_ba4f3_0 rfl hp h
theorem kBcJ6_getChars_ba4f3_1 {b : Nat} (p : Nat) (hp : Nat.ble 32 p = true) (h : kCcJ6_getChars_ba4f3_1[p - 32]? = some b) : kb cJ6_getChars_ba4f3 p b := kin katcJ6_getChars_ba4f3_1 rfl hp h
theorem kBcJ6_getChars_ba4f3_2 {b : Nat} (p : Nat) (hp : Nat.ble 64 p = true) (h : kCcJ6_getChars_ba4f3_2[p - 64]? = some b) : kb cJ6_getChars_ba4f3 p b := kin katcJ6_getChars_ba4f3_2 rfl hp h
theorem kBcJ6_getChars_ba4f3_3 {b : Nat} (p : Nat) (hp : Nat.ble 96 p = true) (h : kCcJ6_getChars_ba4f3_3[p - 96]? = some b) : kb cJ6_getChars_ba4f3 p b := kin katcJ6_getChars_ba4f3_3 rfl hp h
theorem dJ6_getChars_ba4f3_0 : decode cJ6_getChars_ba4f3 0 = .ok (.iload_n 1, 1) := dz_27 (kBcJ6_getChars_ba4f3_0 0 rfl rfl)
theorem dJ6_getChars_ba4f3_1 : decode cJ6_getChars_ba4f3 1 = .ok (.istore 5, 2) := dz_54 (kBcJ6_getChars_ba4f3_0 1 rfl rfl) (kBcJ6_getChars_ba4f3_0 2 rfl rfl)
theorem dJ6_getChars_ba4f3_3 : decode cJ6_getChars_ba4f3 3 = .ok (.iload_n 0, 1) := dz_26 (kBcJ6_getChars_ba4f3_0 3 rfl rfl)
theorem dJ6_getChars_ba4f3_4 : decode cJ6_getChars_ba4f3 4 = .ok (.ifCond .ge 7, 3) := dz_156 (kBcJ6_getChars_ba4f3_0 4 rfl rfl) (kBcJ6_getChars_ba4f3_0 5 rfl rfl) (kBcJ6_getChars_ba4f3_0 6 rfl rfl) rfl
theorem dJ6_getChars_ba4f3_7 : decode cJ6_getChars_ba4f3 7 = .ok (.iconst 1, 1) := dz_4 (kBcJ6_getChars_ba4f3_0 7 rfl rfl)
theorem dJ6_getChars_ba4f3_8 : decode cJ6_getChars_ba4f3 8 = .ok (.goto 4, 3) := dz_167 (kBcJ6_getChars_ba4f3_0 8 rfl rfl) (kBcJ6_getChars_ba4f3_0 9 rfl rfl) (kBcJ6_getChars_ba4f3_0 10 rfl rfl) rfl
theorem dJ6_getChars_ba4f3_11 : decode cJ6_getChars_ba4f3 11 = .ok (.iconst 0, 1) := dz_3 (kBcJ6_getChars_ba4f3_0 11 rfl rfl)
theorem dJ6_getChars_ba4f3_12 : decode cJ6_getChars_ba4f3 12 = .ok (.istore 6, 2) := dz_54 (kBcJ6_getChars_ba4f3_0 12 rfl rfl) (kBcJ6_getChars_ba4f3_0 13 rfl rfl)
theorem dJ6_getChars_ba4f3_14 : decode cJ6_getChars_ba4f3 14 = .ok (.iload 6, 2) := dz_21 (kBcJ6_getChars_ba4f3_0 14 rfl rfl) (kBcJ6_getChars_ba4f3_0 15 rfl rfl)
theorem dJ6_getChars_ba4f3_16 : decode cJ6_getChars_ba4f3 16 = .ok (.ifCond .ne 6, 3) := dz_154 (kBcJ6_getChars_ba4f3_0 16 rfl rfl) (kBcJ6_getChars_ba4f3_0 17 rfl rfl) (kBcJ6_getChars_ba4f3_0 18 rfl rfl) rfl
theorem dJ6_getChars_ba4f3_19 : decode cJ6_getChars_ba4f3 19 = .ok (.iload_n 0, 1) := dz_26 (kBcJ6_getChars_ba4f3_0 19 rfl rfl)
theorem dJ6_getChars_ba4f3_20 : decode cJ6_getChars_ba4f3 20 = .ok (.ineg, 1) := dz_116 (kBcJ6_getChars_ba4f3_0 20 rfl rfl)
theorem dJ6_getChars_ba4f3_21 : decode cJ6_getChars_ba4f3 21 = .ok (.istore_n 0, 1) := dz_59 (kBcJ6_getChars_ba4f3_0 21 rfl rfl)
theorem dJ6_getChars_ba4f3_22 : decode cJ6_getChars_ba4f3 22 = .ok (.iload_n 0, 1) := dz_26 (kBcJ6_getChars_ba4f3_0 22 rfl rfl)
theorem dJ6_getChars_ba4f3_23 : decode cJ6_getChars_ba4f3 23 = .ok (.bipush (-100), 2) := dz_16 (kBcJ6_getChars_ba4f3_0 23 rfl rfl) (kBcJ6_getChars_ba4f3_0 24 rfl rfl) rfl
theorem dJ6_getChars_ba4f3_25 : decode cJ6_getChars_ba4f3 25 = .ok (.if_icmp .gt 47, 3) := dz_163 (kBcJ6_getChars_ba4f3_0 25 rfl rfl) (kBcJ6_getChars_ba4f3_0 26 rfl rfl) (kBcJ6_getChars_ba4f3_0 27 rfl rfl) rfl
theorem dJ6_getChars_ba4f3_28 : decode cJ6_getChars_ba4f3 28 = .ok (.iload_n 0, 1) := dz_26 (kBcJ6_getChars_ba4f3_0 28 rfl rfl)
theorem dJ6_getChars_ba4f3_29 : decode cJ6_getChars_ba4f3 29 = .ok (.bipush 100, 2) := dz_16 (kBcJ6_getChars_ba4f3_0 29 rfl rfl) (kBcJ6_getChars_ba4f3_0 30 rfl rfl) rfl
theorem dJ6_getChars_ba4f3_31 : decode cJ6_getChars_ba4f3 31 = .ok (.idiv, 1) := dz_108 (kBcJ6_getChars_ba4f3_0 31 rfl rfl)
theorem dJ6_getChars_ba4f3_32 : decode cJ6_getChars_ba4f3 32 = .ok (.istore_n 3, 1) := dz_62 (kBcJ6_getChars_ba4f3_1 32 rfl rfl)
theorem dJ6_getChars_ba4f3_33 : decode cJ6_getChars_ba4f3 33 = .ok (.iload_n 3, 1) := dz_29 (kBcJ6_getChars_ba4f3_1 33 rfl rfl)
theorem dJ6_getChars_ba4f3_34 : decode cJ6_getChars_ba4f3 34 = .ok (.bipush 100, 2) := dz_16 (kBcJ6_getChars_ba4f3_1 34 rfl rfl) (kBcJ6_getChars_ba4f3_1 35 rfl rfl) rfl
theorem dJ6_getChars_ba4f3_36 : decode cJ6_getChars_ba4f3 36 = .ok (.imul, 1) := dz_104 (kBcJ6_getChars_ba4f3_1 36 rfl rfl)
theorem dJ6_getChars_ba4f3_37 : decode cJ6_getChars_ba4f3 37 = .ok (.iload_n 0, 1) := dz_26 (kBcJ6_getChars_ba4f3_1 37 rfl rfl)
theorem dJ6_getChars_ba4f3_38 : decode cJ6_getChars_ba4f3 38 = .ok (.isub, 1) := dz_100 (kBcJ6_getChars_ba4f3_1 38 rfl rfl)
theorem dJ6_getChars_ba4f3_39 : decode cJ6_getChars_ba4f3 39 = .ok (.istore 4, 2) := dz_54 (kBcJ6_getChars_ba4f3_1 39 rfl rfl) (kBcJ6_getChars_ba4f3_1 40 rfl rfl)
theorem dJ6_getChars_ba4f3_41 : decode cJ6_getChars_ba4f3 41 = .ok (.iload_n 3, 1) := dz_29 (kBcJ6_getChars_ba4f3_1 41 rfl rfl)
theorem dJ6_getChars_ba4f3_42 : decode cJ6_getChars_ba4f3 42 = .ok (.istore_n 0, 1) := dz_59 (kBcJ6_getChars_ba4f3_1 42 rfl rfl)
theorem dJ6_getChars_ba4f3_43 : decode cJ6_getChars_ba4f3 43 = .ok (.aload_n 2, 1) := dz_44 (kBcJ6_getChars_ba4f3_1 43 rfl rfl)
theorem dJ6_getChars_ba4f3_44 : decode cJ6_getChars_ba4f3 44 = .ok (.iinc 5 (-1), 3) := dz_132 (kBcJ6_getChars_ba4f3_1 44 rfl rfl) (kBcJ6_getChars_ba4f3_1 45 rfl rfl) (kBcJ6_getChars_ba4f3_1 46 rfl rfl) rfl
theorem dJ6_getChars_ba4f3_47 : decode cJ6_getChars_ba4f3 47 = .ok (.iload 5, 2) := dz_21 (kBcJ6_getChars_ba4f3_1 47 rfl rfl) (kBcJ6_getChars_ba4f3_1 48 rfl rfl)
theorem dJ6_getChars_ba4f3_49 : decode cJ6_getChars_ba4f3 49 = .ok (.getstatic 83, 3) := dz_178 (kBcJ6_getChars_ba4f3_1 49 rfl rfl) (kBcJ6_getChars_ba4f3_1 50 rfl rfl) (kBcJ6_getChars_ba4f3_1 51 rfl rfl) rfl
theorem dJ6_getChars_ba4f3_52 : decode cJ6_getChars_ba4f3 52 = .ok (.iload 4, 2) := dz_21 (kBcJ6_getChars_ba4f3_1 52 rfl rfl) (kBcJ6_getChars_ba4f3_1 53 rfl rfl)
theorem dJ6_getChars_ba4f3_54 : decode cJ6_getChars_ba4f3 54 = .ok (.baload, 1) := dz_51 (kBcJ6_getChars_ba4f3_1 54 rfl rfl)
theorem dJ6_getChars_ba4f3_55 : decode cJ6_getChars_ba4f3 55 = .ok (.bastore, 1) := dz_84 (kBcJ6_getChars_ba4f3_1 55 rfl rfl)
theorem dJ6_getChars_ba4f3_56 : decode cJ6_getChars_ba4f3 56 = .ok (.aload_n 2, 1) := dz_44 (kBcJ6_getChars_ba4f3_1 56 rfl rfl)
theorem dJ6_getChars_ba4f3_57 : decode cJ6_getChars_ba4f3 57 = .ok (.iinc 5 (-1), 3) := dz_132 (kBcJ6_getChars_ba4f3_1 57 rfl rfl) (kBcJ6_getChars_ba4f3_1 58 rfl rfl) (kBcJ6_getChars_ba4f3_1 59 rfl rfl) rfl
theorem dJ6_getChars_ba4f3_60 : decode cJ6_getChars_ba4f3 60 = .ok (.iload 5, 2) := dz_21 (kBcJ6_getChars_ba4f3_1 60 rfl rfl) (kBcJ6_getChars_ba4f3_1 61 rfl rfl)
theorem dJ6_getChars_ba4f3_62 : decode cJ6_getChars_ba4f3 62 = .ok (.getstatic 87, 3) := dz_178 (kBcJ6_getChars_ba4f3_1 62 rfl rfl) (kBcJ6_getChars_ba4f3_1 63 rfl rfl) (kBcJ6_getChars_ba4f3_2 64 rfl rfl) rfl
theorem dJ6_getChars_ba4f3_65 : decode cJ6_getChars_ba4f3 65 = .ok (.iload 4, 2) := dz_21 (kBcJ6_getChars_ba4f3_2 65 rfl rfl) (kBcJ6_getChars_ba4f3_2 66 rfl rfl)
theorem dJ6_getChars_ba4f3_67 : decode cJ6_getChars_ba4f3 67 = .ok (.baload, 1) := dz_51 (kBcJ6_getChars_ba4f3_2 67 rfl rfl)
theorem dJ6_getChars_ba4f3_68 : decode cJ6_getChars_ba4f3 68 = .ok (.bastore, 1) := dz_84 (kBcJ6_getChars_ba4f3_2 68 rfl rfl)
theorem dJ6_getChars_ba4f3_69 : decode cJ6_getChars_ba4f3 69 = .ok (.goto (-47), 3) := dz_167 (kBcJ6_getChars_ba4f3_2 69 rfl rfl) (kBcJ6_getChars_ba4f3_2 70 rfl rfl) (kBcJ6_getChars_ba4f3_2 71 rfl rfl) rfl
theorem dJ6_getChars_ba4f3_72 : decode cJ6_getChars_ba4f3 72 = .ok (.aload_n 2, 1) := dz_44 (kBcJ6_getChars_ba4f3_2 72 rfl rfl)
theorem dJ6_getChars_ba4f3_73 : decode cJ6_getChars_ba4f3 73 = .ok (.iinc 5 (-1), 3) := dz_132 (kBcJ6_getChars_ba4f3_2 73 rfl rfl) (kBcJ6_getChars_ba4f3_2 74 rfl rfl) (kBcJ6_getChars_ba4f3_2 75 rfl rfl) rfl
theorem dJ6_getChars_ba4f3_76 : decode cJ6_getChars_ba4f3 76 = .ok (.iload 5, 2) := dz_21 (kBcJ6_getChars_ba4f3_2 76 rfl rfl) (kBcJ6_getChars_ba4f3_2 77 rfl rfl)
theorem dJ6_getChars_ba4f3_78 : decode cJ6_getChars_ba4f3 78 = .ok (.getstatic 83, 3) := dz_178 (kBcJ6_getChars_ba4f3_2 78 rfl rfl) (kBcJ6_getChars_ba4f3_2 79 rfl rfl) (kBcJ6_getChars_ba4f3_2 80 rfl rfl) rfl
theorem dJ6_getChars_ba4f3_81 : decode cJ6_getChars_ba4f3 81 = .ok (.iload_n 0, 1) := dz_26 (kBcJ6_getChars_ba4f3_2 81 rfl rfl)
theorem dJ6_getChars_ba4f3_82 : decode cJ6_getChars_ba4f3 82 = .ok (.ineg, 1) := dz_116 (kBcJ6_getChars_ba4f3_2 82 rfl rfl)
theorem dJ6_getChars_ba4f3_83 : decode cJ6_getChars_ba4f3 83 = .ok (.baload, 1) := dz_51 (kBcJ6_getChars_ba4f3_2 83 rfl rfl)
theorem dJ6_getChars_ba4f3_84 : decode cJ6_getChars_ba4f3 84 = .ok (.bastore, 1) := dz_84 (kBcJ6_getChars_ba4f3_2 84 rfl rfl)
theorem dJ6_getChars_ba4f3_85 : decode cJ6_getChars_ba4f3 85 = .ok (.iload_n 0, 1) := dz_26 (kBcJ6_getChars_ba4f3_2 85 rfl rfl)
theorem dJ6_getChars_ba4f3_86 : decode cJ6_getChars_ba4f3 86 = .ok (.bipush (-9), 2) := dz_16 (kBcJ6_getChars_ba4f3_2 86 rfl rfl) (kBcJ6_getChars_ba4f3_2 87 rfl rfl) rfl
theorem dJ6_getChars_ba4f3_88 : decode cJ6_getChars_ba4f3 88 = .ok (.if_icmp .ge 16, 3) := dz_162 (kBcJ6_getChars_ba4f3_2 88 rfl rfl) (kBcJ6_getChars_ba4f3_2 89 rfl rfl) (kBcJ6_getChars_ba4f3_2 90 rfl rfl) rfl
theorem dJ6_getChars_ba4f3_91 : decode cJ6_getChars_ba4f3 91 = .ok (.aload_n 2, 1) := dz_44 (kBcJ6_getChars_ba4f3_2 91 rfl rfl)
theorem dJ6_getChars_ba4f3_92 : decode cJ6_getChars_ba4f3 92 = .ok (.iinc 5 (-1), 3) := dz_132 (kBcJ6_getChars_ba4f3_2 92 rfl rfl) (kBcJ6_getChars_ba4f3_2 93 rfl rfl) (kBcJ6_getChars_ba4f3_2 94 rfl rfl) rfl
theorem dJ6_getChars_ba4f3_95 : decode cJ6_getChars_ba4f3 95 = .ok (.iload 5, 2) := dz_21 (kBcJ6_getChars_ba4f3_2 95 rfl rfl) (kBcJ6_getChars_ba4f3_3 96 rfl rfl)
theorem dJ6_getChars_ba4f3_97 : decode cJ6_getChars_ba4f3 97 = .ok (.getstatic 87, 3) := dz_178 (kBcJ6_getChars_ba4f3_3 97 rfl rfl) (kBcJ6_getChars_ba4f3_3 98 rfl rfl) (kBcJ6_getChars_ba4f3_3 99 rfl rfl) rfl
theorem dJ6_getChars_ba4f3_100 : decode cJ6_getChars_ba4f3 100 = .ok (.iload_n 0, 1) := dz_26 (kBcJ6_getChars_ba4f3_3 100 rfl rfl)
theorem dJ6_getChars_ba4f3_101 : decode cJ6_getChars_ba4f3 101 = .ok (.ineg, 1) := dz_116 (kBcJ6_getChars_ba4f3_3 101 rfl rfl)
theorem dJ6_getChars_ba4f3_102 : decode cJ6_getChars_ba4f3 102 = .ok (.baload, 1) := dz_51 (kBcJ6_getChars_ba4f3_3 102 rfl rfl)
theorem dJ6_getChars_ba4f3_103 : decode cJ6_getChars_ba4f3 103 = .ok (.bastore, 1) := dz_84 (kBcJ6_getChars_ba4f3_3 103 rfl rfl)
theorem dJ6_getChars_ba4f3_104 : decode cJ6_getChars_ba4f3 104 = .ok (.iload 6, 2) := dz_21 (kBcJ6_getChars_ba4f3_3 104 rfl rfl) (kBcJ6_getChars_ba4f3_3 105 rfl rfl)
theorem dJ6_getChars_ba4f3_106 : decode cJ6_getChars_ba4f3 106 = .ok (.ifCond .eq 12, 3) := dz_153 (kBcJ6_getChars_ba4f3_3 106 rfl rfl) (kBcJ6_getChars_ba4f3_3 107 rfl rfl) (kBcJ6_getChars_ba4f3_3 108 rfl rfl) rfl
theorem dJ6_getChars_ba4f3_109 : decode cJ6_getChars_ba4f3 109 = .ok (.aload_n 2, 1) := dz_44 (kBcJ6_getChars_ba4f3_3 109 rfl rfl)
theorem dJ6_getChars_ba4f3_110 : decode cJ6_getChars_ba4f3 110 = .ok (.iinc 5 (-1), 3) := dz_132 (kBcJ6_getChars_ba4f3_3 110 rfl rfl) (kBcJ6_getChars_ba4f3_3 111 rfl rfl) (kBcJ6_getChars_ba4f3_3 112 rfl rfl) rfl
theorem dJ6_getChars_ba4f3_113 : decode cJ6_getChars_ba4f3 113 = .ok (.iload 5, 2) := dz_21 (kBcJ6_getChars_ba4f3_3 113 rfl rfl) (kBcJ6_getChars_ba4f3_3 114 rfl rfl)
theorem dJ6_getChars_ba4f3_115 : decode cJ6_getChars_ba4f3 115 = .ok (.bipush 45, 2) := dz_16 (kBcJ6_getChars_ba4f3_3 115 rfl rfl) (kBcJ6_getChars_ba4f3_3 116 rfl rfl) rfl
theorem dJ6_getChars_ba4f3_117 : decode cJ6_getChars_ba4f3 117 = .ok (.bastore, 1) := dz_84 (kBcJ6_getChars_ba4f3_3 117 rfl rfl)
theorem dJ6_getChars_ba4f3_118 : decode cJ6_getChars_ba4f3 118 = .ok (.iload 5, 2) := dz_21 (kBcJ6_getChars_ba4f3_3 118 rfl rfl) (kBcJ6_getChars_ba4f3_3 119 rfl rfl)
theorem dJ6_getChars_ba4f3_120 : decode cJ6_getChars_ba4f3 120 = .ok (.ireturn, 1) := dz_172 (kBcJ6_getChars_ba4f3_3 120 rfl rfl)
def kCcJ6_stringSize_0f7a4_0 : List Nat := [4, 60, 26, 155, 0, 8, 3, 60, 26, 116, 59, 16, 246, 61, 4, 62, 29, 16, 10, 162, 0, 23, 26, 28, 164, 0, 7, 29, 27, 96, 172, 16]
def kCcJ6_stringSize_0f7a4_1 : List Nat := [10, 28, 104, 61, 132, 3, 1, 167, 255, 233, 16, 10, 27, 96, 172]
def kRcJ6_stringSize_0f7a4_2 : List Nat := []
def kRcJ6_stringSize_0f7a4_1 : List Nat := kCcJ6_stringSize_0f7a4_1 ++ kRcJ6_stringSize_0f7a4_2
def kRcJ6_stringSize_0f7a4_0 : List Nat := kCcJ6_stringSize_0f7a4_0 ++ kRcJ6_stringSize_0f7a4_1
theorem kRcJ6_stringSize_0f7a4_eq : cJ6_stringSize_0f7a4.data.toList.map UInt8.toNat = kRcJ6_stringSize_0f7a4_0 := by decide +kernel
theorem katcJ6_stringSize_0f7a4_0 (i : Nat) : (cJ6_stringSize_0f7a4.data.toList.map UInt8.toNat)[0 + i]? = kRcJ6_stringSize_0f7a4_0[i]? := by rw [kRcJ6_stringSize_0f7a4_eq, Nat.zero_add]
theorem katcJ6_stringSize_0f7a4_1 : ∀ i : Nat, (cJ6_stringSize_0f7a4.data.toList.map UInt8.toNat)[32 + i]? = kRcJ6_stringSize_0f7a4_1[i]? := kstep katcJ6_stringSize_0f7a4_0 (C := kCcJ6_stringSize_0f7a4_0) rfl rfl
theorem kBcJ6_stringSize_0f7a4_0 {b : Nat} (p : Nat) (hp : Nat.ble 0 p = true) (h : kCcJ6_stringSize_0f7a4_0[p - 0]? = some b) : kb cJ6_stringSize_0f7a4 p b := kin katcJ6_stringSize_0f7a4_0 rfl hp h
theorem kBcJ6_stringSize_0f7a4_1 {b : Nat} (p : Nat) (hp : Nat.ble 32 p = true) (h : kCcJ6_stringSize_0f7a4_1[p - 32]? = some b) : kb cJ6_stringSize_0f7a4 p b := kin katcJ6_stringSize_0f7a4_1 rfl hp h
theorem dJ6_stringSize_0f7a4_0 : decode cJ6_stringSize_0f7a4 0 = .ok (.iconst 1, 1) := dz_4 (kBcJ6_stringSize_0f7a4_0 0 rfl rfl)
theorem dJ6_stringSize_0f7a4_1 : decode cJ6_stringSize_0f7a4 1 = .ok (.istore_n 1, 1) := dz_60 (kBcJ6_stringSize_0f7a4_0 1 rfl rfl)
theorem dJ6_stringSize_0f7a4_2 : decode cJ6_stringSize_0f7a4 2 = .ok (.iload_n 0, 1) := dz_26 (kBcJ6_stringSize_0f7a4_0 2 rfl rfl)
theorem dJ6_stringSize_0f7a4_3 : decode cJ6_stringSize_0f7a4 3 = .ok (.ifCond .lt 8, 3) := dz_155 (kBcJ6_stringSize_0f7a4_0 3 rfl rfl) (kBcJ6_stringSize_0f7a4_0 4 rfl rfl) (kBcJ6_stringSize_0f7a4_0 5 rfl rfl) rfl
theorem dJ6_stringSize_0f7a4_6 : decode cJ6_stringSize_0f7a4 6 = .ok (.iconst 0, 1) := dz_3 (kBcJ6_stringSize_0f7a4_0 6 rfl rfl)
theorem dJ6_stringSize_0f7a4_7 : decode cJ6_stringSize_0f7a4 7 = .ok (.istore_n 1, 1) := dz_60 (kBcJ6_stringSize_0f7a4_0 7 rfl rfl)
theorem dJ6_stringSize_0f7a4_8 : decode cJ6_stringSize_0f7a4 8 = .ok (.iload_n 0, 1) := dz_26 (kBcJ6_stringSize_0f7a4_0 8 rfl rfl)
theorem dJ6_stringSize_0f7a4_9 : decode cJ6_stringSize_0f7a4 9 = .ok (.ineg, 1) := dz_116 (kBcJ6_stringSize_0f7a4_0 9 rfl rfl)
theorem dJ6_stringSize_0f7a4_10 : decode cJ6_stringSize_0f7a4 10 = .ok (.istore_n 0, 1) := dz_59 (kBcJ6_stringSize_0f7a4_0 10 rfl rfl)
theorem dJ6_stringSize_0f7a4_11 : decode cJ6_stringSize_0f7a4 11 = .ok (.bipush (-10), 2) := dz_16 (kBcJ6_stringSize_0f7a4_0 11 rfl rfl) (kBcJ6_stringSize_0f7a4_0 12 rfl rfl) rfl
theorem dJ6_stringSize_0f7a4_13 : decode cJ6_stringSize_0f7a4 13 = .ok (.istore_n 2, 1) := dz_61 (kBcJ6_stringSize_0f7a4_0 13 rfl rfl)
theorem dJ6_stringSize_0f7a4_14 : decode cJ6_stringSize_0f7a4 14 = .ok (.iconst 1, 1) := dz_4 (kBcJ6_stringSize_0f7a4_0 14 rfl rfl)
theorem dJ6_stringSize_0f7a4_15 : decode cJ6_stringSize_0f7a4 15 = .ok (.istore_n 3, 1) := dz_62 (kBcJ6_stringSize_0f7a4_0 15 rfl rfl)
theorem dJ6_stringSize_0f7a4_16 : decode cJ6_stringSize_0f7a4 16 = .ok (.iload_n 3, 1) := dz_29 (kBcJ6_stringSize_0f7a4_0 16 rfl rfl)
theorem dJ6_stringSize_0f7a4_17 : decode cJ6_stringSize_0f7a4 17 = .ok (.bipush 10, 2) := dz_16 (kBcJ6_stringSize_0f7a4_0 17 rfl rfl) (kBcJ6_stringSize_0f7a4_0 18 rfl rfl) rfl
theorem dJ6_stringSize_0f7a4_19 : decode cJ6_stringSize_0f7a4 19 = .ok (.if_icmp .ge 23, 3) := dz_162 (kBcJ6_stringSize_0f7a4_0 19 rfl rfl) (kBcJ6_stringSize_0f7a4_0 20 rfl rfl) (kBcJ6_stringSize_0f7a4_0 21 rfl rfl) rfl
theorem dJ6_stringSize_0f7a4_22 : decode cJ6_stringSize_0f7a4 22 = .ok (.iload_n 0, 1) := dz_26 (kBcJ6_stringSize_0f7a4_0 22 rfl rfl)
theorem dJ6_stringSize_0f7a4_23 : decode cJ6_stringSize_0f7a4 23 = .ok (.iload_n 2, 1) := dz_28 (kBcJ6_stringSize_0f7a4_0 23 rfl rfl)
theorem dJ6_stringSize_0f7a4_24 : decode cJ6_stringSize_0f7a4 24 = .ok (.if_icmp .le 7, 3) := dz_164 (kBcJ6_stringSize_0f7a4_0 24 rfl rfl) (kBcJ6_stringSize_0f7a4_0 25 rfl rfl) (kBcJ6_stringSize_0f7a4_0 26 rfl rfl) rfl
theorem dJ6_stringSize_0f7a4_27 : decode cJ6_stringSize_0f7a4 27 = .ok (.iload_n 3, 1) := dz_29 (kBcJ6_stringSize_0f7a4_0 27 rfl rfl)
theorem dJ6_stringSize_0f7a4_28 : decode cJ6_stringSize_0f7a4 28 = .ok (.iload_n 1, 1) := dz_27 (kBcJ6_stringSize_0f7a4_0 28 rfl rfl)
theorem dJ6_stringSize_0f7a4_29 : decode cJ6_stringSize_0f7a4 29 = .ok (.iadd, 1) := dz_96 (kBcJ6_stringSize_0f7a4_0 29 rfl rfl)
theorem dJ6_stringSize_0f7a4_30 : decode cJ6_stringSize_0f7a4 30 = .ok (.ireturn, 1) := dz_172 (kBcJ6_stringSize_0f7a4_0 30 rfl rfl)
theorem dJ6_stringSize_0f7a4_31 : decode cJ6_stringSize_0f7a4 31 = .ok (.bipush 10, 2) := dz_16 (kBcJ6_stringSize_0f7a4_0 31 rfl rfl) (kBcJ6_stringSize_0f7a4_1 32 rfl rfl) rfl
theorem dJ6_stringSize_0f7a4_33 : decode cJ6_stringSize_0f7a4 33 = .ok (.iload_n 2, 1) := dz_28 (kBcJ6_stringSize_0f7a4_1 33 rfl rfl)
theorem dJ6_stringSize_0f7a4_34 : decode cJ6_stringSize_0f7a4 34 = .ok (.imul, 1) := dz_104 (kBcJ6_stringSize_0f7a4_1 34 rfl rfl)
theorem dJ6_stringSize_0f7a4_35 : decode cJ6_stringSize_0f7a4 35 = .ok (.istore_n 2, 1) := dz_61 (kBcJ6_stringSize_0f7a4_1 35 rfl rfl)
theorem dJ6_stringSize_0f7a4_36 : decode cJ6_stringSize_0f7a4 36 = .ok (.iinc 3 1, 3) := dz_132 (kBcJ6_stringSize_0f7a4_1 36 rfl rfl) (kBcJ6_stringSize_0f7a4_1 37 rfl rfl) (kBcJ6_stringSize_0f7a4_1 38 rfl rfl) rfl
theorem dJ6_stringSize_0f7a4_39 : decode cJ6_stringSize_0f7a4 39 = .ok (.goto (-23), 3) := dz_167 (kBcJ6_stringSize_0f7a4_1 39 rfl rfl) (kBcJ6_stringSize_0f7a4_1 40 rfl rfl) (kBcJ6_stringSize_0f7a4_1 41 rfl rfl) rfl
theorem dJ6_stringSize_0f7a4_42 : decode cJ6_stringSize_0f7a4 42 = .ok (.bipush 10, 2) := dz_16 (kBcJ6_stringSize_0f7a4_1 42 rfl rfl) (kBcJ6_stringSize_0f7a4_1 43 rfl rfl) rfl
theorem dJ6_stringSize_0f7a4_44 : decode cJ6_stringSize_0f7a4 44 = .ok (.iload_n 1, 1) := dz_27 (kBcJ6_stringSize_0f7a4_1 44 rfl rfl)
theorem dJ6_stringSize_0f7a4_45 : decode cJ6_stringSize_0f7a4 45 = .ok (.iadd, 1) := dz_96 (kBcJ6_stringSize_0f7a4_1 45 rfl rfl)
theorem dJ6_stringSize_0f7a4_46 : decode cJ6_stringSize_0f7a4 46 = .ok (.ireturn, 1) := dz_172 (kBcJ6_stringSize_0f7a4_1 46 rfl rfl)
def kCcJ13_getChars_11360_0 : List Nat := [28, 54, 7, 30, 9, 148, 156, 0, 7, 4, 167, 0, 4, 3, 54, 8, 21, 8, 154, 0, 6, 30, 117, 63, 30, 20, 0, 129, 148, 157, 0, 53]
def kCcJ13_getChars_11360_1 : List Nat := [30, 20, 0, 131, 109, 55, 4, 22, 4, 20, 0, 131, 105, 30, 101, 136, 54, 6, 22, 4, 63, 45, 132, 7, 255, 21, 7, 178, 0, 133, 21, 6]
def kCcJ13_getChars_11360_2 : List Nat := [51, 84, 45, 132, 7, 255, 21, 7, 178, 0, 137, 21, 6, 51, 84, 167, 255, 201, 30, 136, 54, 10, 21, 10, 16, 156, 163, 0, 53, 21, 10, 16]
def kCcJ13_getChars_11360_3 : List Nat := [100, 108, 54, 9, 21, 9, 16, 100, 104, 21, 10, 100, 54, 6, 21, 9, 54, 10, 45, 132, 7, 255, 21, 7, 178, 0, 133, 21, 6, 51, 84, 45]
def kCcJ13_getChars_11360_4 : List Nat := [132, 7, 255, 21, 7, 178, 0, 137, 21, 6, 51, 84, 167, 255, 202, 45, 132, 7, 255, 21, 7, 178, 0, 133, 21, 10, 116, 51, 84, 21, 10, 16]
def kCcJ13_getChars_11360_5 : List Nat := [247, 162, 0, 17, 45, 132, 7, 255, 21, 7, 178, 0, 137, 21, 10, 116, 51, 84, 21, 8, 153, 0, 12, 45, 132, 7, 255, 21, 7, 16, 45, 84]
def kCcJ13_getChars_11360_6 : List Nat := [21, 7, 172]
def kRcJ13_getChars_11360_7 : List Nat := []
def kRcJ13_getChars_11360_6 : List Nat := kCcJ13_getChars_11360_6 ++ kRcJ13_getChars_11360_7
def kRcJ13_getChars_11360_5 : List Nat := kCcJ13_getChars_11360_5 ++ kRcJ13_getChars_11360_6
def kRcJ13_getChars_11360_4 : List Nat := kCcJ13_getChars_11360_4 ++ kRcJ13_getChars_11360_5
def kRcJ13_getChars_11360_3 : List Nat := kCcJ13_getChars_11360_3 ++ kRcJ13_getChars_11360_4
def kRcJ13_getChars_11360_2 : List Nat := kCcJ13_getChars_11360_2 ++ kRcJ13_getChars_11360_3
def kRcJ13_getChars_11360_1 : List Nat := kCcJ13_getChars_11360_1 ++ kRcJ13_getChars_11360_2
def kRcJ13_getChars_11360_0 : List Nat := kCcJ13_getChars_11360_0 ++ kRcJ13_getChars_11360_1
theorem kRcJ13_getChars_11360_eq : cJ13_getChars_11360.data.toList.map UInt8.toNat = kRcJ13_getChars_11360_0 := by decide +kernel
theorem katcJ13_getChars_11360_0 (i : Nat) : (cJ13_getChars_11360.data.toList.map UInt8.toNat)[0 + i]? = kRcJ13_getChars_11360_0[i]? := by rw [kRcJ13_getChars_11360_eq, Nat.zero_add]
theorem katcJ13_getChars_11360_1 : ∀ i : Nat, (cJ13_getChars_11360.data.toList.map UInt8.toNat)[32 + i]? = kRcJ13_getChars_11360_1[i]? := kstep katcJ13_getChars_11360_0 (C := kCcJ13_getChars_11360_0) rfl rfl
theorem katcJ13_getChars_11360_2 : ∀ i : Nat, (cJ13_getChars_11360.data.toList.map UInt8.toNat)[64 + i]? = kRcJ13_getChars_11360_2[i]? := kstep katcJ13_getChars_11360_1 (C := kCcJ13_getChars_11360_1) rfl rfl
theorem katcJ13_getChars_11360_3 : ∀ i : Nat, (cJ13_getChars_11360.data.toList.map UInt8.toNat)[96 + i]? = kRcJ13_getChars_11360_3[i]? := kstep katcJ13_getChars_11360_2 (C := kCcJ13_getChars_11360_2) rfl rfl
theorem katcJ13_getChars_11360_4 : ∀ i : Nat, (cJ13_getChars_11360.data.toList.map UInt8.toNat)[128 + i]? = kRcJ13_getChars_11360_4[i]? := kstep katcJ13_getChars_11360_3 (C := kCcJ13_getChars_11360_3) rfl rfl
theorem katcJ13_getChars_11360_5 : ∀ i : Nat, (cJ13_getChars_11360.data.toList.map UInt8.toNat)[160 + i]? = kRcJ13_getChars_11360_5[i]? := kstep katcJ13_getChars_11360_4 (C := kCcJ13_getChars_11360_4) rfl rfl
theorem katcJ13_getChars_11360_6 : ∀ i : Nat, (cJ13_getChars_11360.data.toList.map UInt8.toNat)[192 + i]? = kRcJ13_getChars_11360_6[i]? := kstep katcJ13_getChars_11360_5 (C := kCcJ13_getChars_11360_5) rfl rfl
theorem kBcJ13_getChars_11360_0 {b : Nat} (p : Nat) (hp : Nat.ble 0 p = true) (h : kCcJ13_getChars_11360_0[p - 0]? = some b) : kb cJ13_getChars_11360 p b := kin katcJ13_getChars_11360_0 rfl hp h
theorem kBcJ13_getChars_11360_1 {b : Nat} (p : Nat) (hp : Nat.ble 32 p = true) (h : kCcJ13_getChars_11360_1[p - 32]? = some b) : kb cJ13_getChars_11360 p b := kin katcJ13_getChars_11360_1 rfl hp h
theorem kBcJ13_getChars_11360_2 {b : Nat} (p : Nat) (hp : Nat.ble 64 p = true) (h : kCcJ13_getChars_11360_2[p - 64]? = some b) : kb cJ13_getChars_11360 p b := kin katcJ13_getChars_11360_2 rfl hp h
theorem kBcJ13_getChars_11360_3 {b : Nat} (p : Nat) (hp : Nat.ble 96 p = true) (h : kCcJ13_getChars_11360_3[p - 96]? = some b) : kb cJ13_getChars_11360 p b := kin katcJ13_getChars_11360_3 rfl hp h
theorem kBcJ13_getChars_11360_4 {b : Nat} (p : Nat) (hp : Nat.ble 128 p = true) (h : kCcJ13_getChars_11360_4[p - 128]? = some b) : kb cJ13_getChars_11360 p b := kin katcJ13_getChars_11360_4 rfl hp h
theorem kBcJ13_getChars_11360_5 {b : Nat} (p : Nat) (hp : Nat.ble 160 p = true) (h : kCcJ13_getChars_11360_5[p - 160]? = some b) : kb cJ13_getChars_11360 p b := kin katcJ13_getChars_11360_5 rfl hp h
theorem kBcJ13_getChars_11360_6 {b : Nat} (p : Nat) (hp : Nat.ble 192 p = true) (h : kCcJ13_getChars_11360_6[p - 192]? = some b) : kb cJ13_getChars_11360 p b := kin katcJ13_getChars_11360_6 rfl hp h
theorem dJ13_getChars_11360_0 : decode cJ13_getChars_11360 0 = .ok (.iload_n 2, 1) := dz_28 (kBcJ13_getChars_11360_0 0 rfl rfl)
theorem dJ13_getChars_11360_1 : decode cJ13_getChars_11360 1 = .ok (.istore 7, 2) := dz_54 (kBcJ13_getChars_11360_0 1 rfl rfl) (kBcJ13_getChars_11360_0 2 rfl rfl)
theorem dJ13_getChars_11360_3 : decode cJ13_getChars_11360 3 = .ok (.lload_n 0, 1) := dz_30 (kBcJ13_getChars_11360_0 3 rfl rfl)
theorem dJ13_getChars_11360_4 : decode cJ13_getChars_11360 4 = .ok (.lconst 0, 1) := dz_9 (kBcJ13_getChars_11360_0 4 rfl rfl)
theorem dJ13_getChars_11360_5 : decode cJ13_getChars_11360 5 = .ok (.lcmp, 1) := dz_148 (kBcJ13_getChars_11360_0 5 rfl rfl)
theorem dJ13_getChars_11360_6 : decode cJ13_getChars_11360 6 = .ok (.ifCond .ge 7, 3) := dz_156 (kBcJ13_getChars_11360_0 6 rfl rfl) (kBcJ13_getChars_11360_0 7 rfl rfl) (kBcJ13_getChars_11360_0 8 rfl rfl) rfl
theorem dJ13_getChars_11360_9 : decode cJ13_getChars_11360 9 = .ok (.iconst 1, 1) := dz_4 (kBcJ13_getChars_11360_0 9 rfl rfl)
theorem dJ13_getChars_11360_10 : decode cJ13_getChars_11360 10 = .ok (.goto 4, 3) := dz_167 (kBcJ13_getChars_11360_0 10 rfl rfl) (kBcJ13_getChars_11360_0 11 rfl rfl) (kBcJ13_getChars_11360_0 12 rfl rfl) rfl
theorem dJ13_getChars_11360_13 : decode cJ13_getChars_11360 13 = .ok (.iconst 0, 1) := dz_3 (kBcJ13_getChars_11360_0 13 rfl rfl)
theorem dJ13_getChars_11360_14 : decode cJ13_getChars_11360 14 = .ok (.istore 8, 2) := dz_54 (kBcJ13_getChars_11360_0 14 rfl rfl) (kBcJ13_getChars_11360_0 15 rfl rfl)
theorem dJ13_getChars_11360_16 : decode cJ13_getChars_11360 16 = .ok (.iload 8, 2) := dz_21 (kBcJ13_getChars_11360_0 16 rfl rfl) (kBcJ13_getChars_11360_0 17 rfl rfl)
theorem dJ13_getChars_11360_18 : decode cJ13_getChars_11360 18 = .ok (.ifCond .ne 6, 3) := dz_154 (kBcJ13_getChars_11360_0 18 rfl rfl) (kBcJ13_getChars_11360_0 19 rfl rfl) (kBcJ13_getChars_11360_0 20 rfl rfl) rfl
theorem dJ13_getChars_11360_21 : decode cJ13_getChars_11360 21 = .ok (.lload_n 0, 1) := dz_30 (kBcJ13_getChars_11360_0 21 rfl rfl)
theorem dJ13_getChars_11360_22 : decode cJ13_getChars_11360 22 = .ok (.lneg, 1) := dz_117 (kBcJ13_getChars_11360_0 22 rfl rfl)
theorem dJ13_getChars_11360_23 : decode cJ13_getChars_11360 23 = .ok (.lstore_n 0, 1) := dz_63 (kBcJ13_getChars_11360_0 23 rfl rfl)
theorem dJ13_getChars_11360_24 : decode cJ13_getChars_11360 24 = .ok (.lload_n 0, 1) := dz_30 (kBcJ13_getChars_11360_0 24 rfl rfl)
theorem dJ13_getChars_11360_25 : decode cJ13_getChars_11360 25 = .ok (.ldc2_w 129, 3) := dz_20 (kBcJ13_getChars_11360_0 25 rfl rfl) (kBcJ13_getChars_11360_0 26 rfl rfl) (kBcJ13_getChars_11360_0 27 rfl rfl) rfl
theorem dJ13_getChars_11360_28 : decode cJ13_getChars_11360 28 = .ok (.lcmp, 1) := dz_148 (kBcJ13_getChars_11360_0 28 rfl rfl)
theorem dJ13_getChars_11360_29 : decode cJ13_getChars_11360 29 = .ok (.ifCond .gt 53, 3) := dz_157 (kBcJ13_getChars_11360_0 29 rfl rfl) (kBcJ13_getChars_11360_0 30 rfl rfl) (kBcJ13_getChars_11360_0 31 rfl rfl) rfl
theorem dJ13_getChars_11360_32 : decode cJ13_getChars_11360 32 = .ok (.lload_n 0, 1) := dz_30 (kBcJ13_getChars_11360_1 32 rfl rfl)
theorem dJ13_getChars_11360_33 : decode cJ13_getChars_11360 33 = .ok (.ldc2_w 131, 3) := dz_20 (kBcJ13_getChars_11360_1 33 rfl rfl) (kBcJ13_getChars_11360_1 34 rfl rfl) (kBcJ13_getChars_11360_1 35 rfl rfl) rfl
theorem dJ13_getChars_11360_36 : decode cJ13_getChars_11360 36 = .ok (.ldiv, 1) := dz_109 (kBcJ13_getChars_11360_1 36 rfl rfl)
theorem dJ13_getChars_11360_37 : decode cJ13_getChars_11360 37 = .ok (.lstore 4, 2) := dz_55 (kBcJ13_getChars_11360_1 37 rfl rfl) (kBcJ13_getChars_11360_1 38 rfl rfl)
theorem dJ13_getChars_11360_39 : decode cJ13_getChars_11360 39 = .ok (.lload 4, 2) := dz_22 (kBcJ13_getChars_11360_1 39 rfl rfl) (kBcJ13_getChars_11360_1 40 rfl rfl)
theorem dJ13_getChars_11360_41 : decode cJ13_getChars_11360 41 = .ok (.ldc2_w 131, 3) := dz_20 (kBcJ13_getChars_11360_1 41 rfl rfl) (kBcJ13_getChars_11360_1 42 rfl rfl) (kBcJ13_getChars_11360_1 43 rfl rfl) rfl
theorem dJ13_getChars_11360_44 : decode cJ13_getChars_11360 44 = .ok (.lmul, 1) := dz_105 (kBcJ13_getChars_11360_1 44 rfl rfl)
theorem dJ13_getChars_11360_45 : decode cJ13_getChars_11360 45 = .ok (.lload_n 0, 1) := dz_30 (kBcJ13_getChars_11360_1 45 rfl rfl)
theorem dJ13_getChars_11360_46 : decode cJ13_getChars_11360 46 = .ok (.lsub, 1) := dz_101 (kBcJ13_getChars_11360_1 46 rfl rfl)
theorem dJ13_getChars_11360_47 : decode cJ13_getChars_11360 47 = .ok (.l2i, 1) := dz_136 (kBcJ13_getChars_11360_1 47 rfl rfl)
theorem dJ13_getChars_11360_48 : decode cJ13_getChars_11360 48 = .ok (.istore 6, 2) := dz_54 (kBcJ13_getChars_11360_1 48 rfl rfl) (kBcJ13_getChars_11360_1 49 rfl rfl)
theorem dJ13_getChars_11360_50 : decode cJ13_getChars_11360 50 = .ok (.lload 4, 2) := dz_22 (kBcJ13_getChars_11360_1 50 rfl rfl) (kBcJ13_getChars_11360_1 51 rfl rfl)
theorem dJ13_getChars_11360_52 : decode cJ13_getChars_11360 52 = .ok (.lstore_n 0, 1) := dz_63 (kBcJ13_getChars_11360_1 52 rfl rfl)
theorem dJ13_getChars_11360_53 : decode cJ13_getChars_11360 53 = .ok (.aload_n 3, 1) := dz_45 (kBcJ13_getChars_11360_1 53 rfl rfl)
theorem dJ13_getChars_11360_54 : decode cJ13_getChars_11360 54 = .ok (.iinc 7 (-1), 3) := dz_132 (kBcJ13_getChars_11360_1 54 rfl rfl) (kBcJ13_getChars_11360_1 55 rfl rfl) (kBcJ13_getChars_11360_1 56 rfl rfl) rfl
theorem dJ13_getChars_11360_57 : decode cJ13_getChars_11360 57 = .ok (.iload 7, 2) := dz_21 (kBcJ13_getChars_11360_1 57 rfl rfl) (kBcJ13_getChars_11360_1 58 rfl rfl)
theorem dJ13_getChars_11360_59 : decode cJ13_getChars_11360 59 = .ok (.getstatic 133, 3) := dz_178 (kBcJ13_getChars_11360_1 59 rfl rfl) (kBcJ13_getChars_11360_1 60 rfl rfl) (kBcJ13_getChars_11360_1 61 rfl rfl) rfl
theorem dJ13_getChars_11360_62 : decode cJ13_getChars_11360 62 = .ok (.iload 6, 2) := dz_21 (kBcJ13_getChars_11360_1 62 rfl rfl) (kBcJ13_getChars_11360_1 63 rfl rfl)
theorem dJ13_getChars_11360_64 : decode cJ13_getChars_11360 64 = .ok (.baload, 1) := dz_51 (kBcJ13_getChars_11360_2 64 rfl rfl)
theorem dJ13_getChars_11360_65 : decode cJ13_getChars_11360 65 = .ok (.bastore, 1) := dz_84 (kBcJ13_getChars_11360_2 65 rfl rfl)
theorem dJ13_getChars_11360_66 : decode cJ13_getChars_11360 66 = .ok (.aload_n 3, 1) := dz_45 (kBcJ13_getChars_11360_2 66 rfl rfl)
theorem dJ13_getChars_11360_67 : decode cJ13_getChars_11360 67 = .ok (.iinc 7 (-1), 3) := dz_132 (kBcJ13_getChars_11360_2 67 rfl rfl) (kBcJ13_getChars_11360_2 68 rfl rfl) (kBcJ13_getChars_11360_2 69 rfl rfl) rfl
theorem dJ13_getChars_11360_70 : decode cJ13_getChars_11360 70 = .ok (.iload 7, 2) := dz_21 (kBcJ13_getChars_11360_2 70 rfl rfl) (kBcJ13_getChars_11360_2 71 rfl rfl)
theorem dJ13_getChars_11360_72 : decode cJ13_getChars_11360 72 = .ok (.getstatic 137, 3) := dz_178 (kBcJ13_getChars_11360_2 72 rfl rfl) (kBcJ13_getChars_11360_2 73 rfl rfl) (kBcJ13_getChars_11360_2 74 rfl rfl) rfl
theorem dJ13_getChars_11360_75 : decode cJ13_getChars_11360 75 = .ok (.iload 6, 2) := dz_21 (kBcJ13_getChars_11360_2 75 rfl rfl) (kBcJ13_getChars_11360_2 76 rfl rfl)
theorem dJ13_getChars_11360_77 : decode cJ13_getChars_11360 77 = .ok (.baload, 1) := dz_51 (kBcJ13_getChars_11360_2 77 rfl rfl)
theorem dJ13_getChars_11360_78 : decode cJ13_getChars_11360 78 = .ok (.bastore, 1) := dz_84 (kBcJ13_getChars_11360_2 78 rfl rfl)
theorem dJ13_getChars_11360_79 : decode cJ13_getChars_11360 79 = .ok (.goto (-55), 3) := dz_167 (kBcJ13_getChars_11360_2 79 rfl rfl) (kBcJ13_getChars_11360_2 80 rfl rfl) (kBcJ13_getChars_11360_2 81 rfl rfl) rfl
theorem dJ13_getChars_11360_82 : decode cJ13_getChars_11360 82 = .ok (.lload_n 0, 1) := dz_30 (kBcJ13_getChars_11360_2 82 rfl rfl)
theorem dJ13_getChars_11360_83 : decode cJ13_getChars_11360 83 = .ok (.l2i, 1) := dz_136 (kBcJ13_getChars_11360_2 83 rfl rfl)
theorem dJ13_getChars_11360_84 : decode cJ13_getChars_11360 84 = .ok (.istore 10, 2) := dz_54 (kBcJ13_getChars_11360_2 84 rfl rfl) (kBcJ13_getChars_11360_2 85 rfl rfl)
theorem dJ13_getChars_11360_86 : decode cJ13_getChars_11360 86 = .ok (.iload 10, 2) := dz_21 (kBcJ13_getChars_11360_2 86 rfl rfl) (kBcJ13_getChars_11360_2 87 rfl rfl)
theorem dJ13_getChars_11360_88 : decode cJ13_getChars_11360 88 = .ok (.bipush (-100), 2) := dz_16 (kBcJ13_getChars_11360_2 88 rfl rfl) (kBcJ13_getChars_11360_2 89 rfl rfl) rfl
theorem dJ13_getChars_11360_90 : decode cJ13_getChars_11360 90 = .ok (.if_icmp .gt 53, 3) := dz_163 (kBcJ13_getChars_11360_2 90 rfl rfl) (kBcJ13_getChars_11360_2 91 rfl rfl) (kBcJ13_getChars_11360_2 92 rfl rfl) rfl
theorem dJ13_getChars_11360_93 : decode cJ13_getChars_11360 93 = .ok (.iload 10, 2) := dz_21 (kBcJ13_getChars_11360_2 93 rfl rfl) (kBcJ13_getChars_11360_2 94 rfl rfl)
theorem dJ13_getChars_11360_95 : decode cJ13_getChars_11360 95 = .ok (.bipush 100, 2) := dz_16 (kBcJ13_getChars_11360_2 95 rfl rfl) (kBcJ13_getChars_11360_3 96 rfl rfl) rfl
theorem dJ13_getChars_11360_97 : decode cJ13_getChars_11360 97 = .ok (.idiv, 1) := dz_108 (kBcJ13_getChars_11360_3 97 rfl rfl)
theorem dJ13_getChars_11360_98 : decode cJ13_getChars_11360 98 = .ok (.istore 9, 2) := dz_54 (kBcJ13_getChars_11360_3 98 rfl rfl) (kBcJ13_getChars_11360_3 99 rfl rfl)
theorem dJ13_getChars_11360_100 : decode cJ13_getChars_11360 100 = .ok (.iload 9, 2) := dz_21 (kBcJ13_getChars_11360_3 100 rfl rfl) (kBcJ13_getChars_11360_3 101 rfl rfl)
theorem dJ13_getChars_11360_102 : decode cJ13_getChars_11360 102 = .ok (.bipush 100, 2) := dz_16 (kBcJ13_getChars_11360_3 102 rfl rfl) (kBcJ13_getChars_11360_3 103 rfl rfl) rfl
theorem dJ13_getChars_11360_104 : decode cJ13_getChars_11360 104 = .ok (.imul, 1) := dz_104 (kBcJ13_getChars_11360_3 104 rfl rfl)
theorem dJ13_getChars_11360_105 : decode cJ13_getChars_11360 105 = .ok (.iload 10, 2) := dz_21 (kBcJ13_getChars_11360_3 105 rfl rfl) (kBcJ13_getChars_11360_3 106 rfl rfl)
theorem dJ13_getChars_11360_107 : decode cJ13_getChars_11360 107 = .ok (.isub, 1) := dz_100 (kBcJ13_getChars_11360_3 107 rfl rfl)
theorem dJ13_getChars_11360_108 : decode cJ13_getChars_11360 108 = .ok (.istore 6, 2) := dz_54 (kBcJ13_getChars_11360_3 108 rfl rfl) (kBcJ13_getChars_11360_3 109 rfl rfl)
theorem dJ13_getChars_11360_110 : decode cJ13_getChars_11360 110 = .ok (.iload 9, 2) := dz_21 (kBcJ13_getChars_11360_3 110 rfl rfl) (kBcJ13_getChars_11360_3 111 rfl rfl)
theorem dJ13_getChars_11360_112 : decode cJ13_getChars_11360 112 = .ok (.istore 10, 2) := dz_54 (kBcJ13_getChars_11360_3 112 rfl rfl) (kBcJ13_getChars_11360_3 113 rfl rfl)
theorem dJ13_getChars_11360_114 : decode cJ13_getChars_11360 114 = .ok (.aload_n 3, 1) := dz_45 (kBcJ13_getChars_11360_3 114 rfl rfl)
theorem dJ13_getChars_11360_115 : decode cJ13_getChars_11360 115 = .ok (.iinc 7 (-1), 3) := dz_132 (kBcJ13_getChars_11360_3 115 rfl rfl) (kBcJ13_getChars_11360_3 116 rfl rfl) (kBcJ13_getChars_11360_3 117 rfl rfl) rfl
theorem dJ13_getChars_11360_118 : decode cJ13_getChars_11360 118 = .ok (.iload 7, 2) := dz_21 (kBcJ13_getChars_11360_3 118 rfl rfl) (kBcJ13_getChars_11360_3 119 rfl rfl)
theorem dJ13_getChars_11360_120 : decode cJ13_getChars_11360 120 = .ok (.getstatic 133, 3) := dz_178 (kBcJ13_getChars_11360_3 120 rfl rfl) (kBcJ13_getChars_11360_3 121 rfl rfl) (kBcJ13_getChars_11360_3 122 rfl rfl) rfl
theorem dJ13_getChars_11360_123 : decode cJ13_getChars_11360 123 = .ok (.iload 6, 2) := dz_21 (kBcJ13_getChars_11360_3 123 rfl rfl) (kBcJ13_getChars_11360_3 124 rfl rfl)
theorem dJ13_getChars_11360_125 : decode cJ13_getChars_11360 125 = .ok (.baload, 1) := dz_51 (kBcJ13_getChars_11360_3 125 rfl rfl)
theorem dJ13_getChars_11360_126 : decode cJ13_getChars_11360 126 = .ok (.bastore, 1) := dz_84 (kBcJ13_getChars_11360_3 126 rfl rfl)
theorem dJ13_getChars_11360_127 : decode cJ13_getChars_11360 127 = .ok (.aload_n 3, 1) := dz_45 (kBcJ13_getChars_11360_3 127 rfl rfl)
theorem dJ13_getChars_11360_128 : decode cJ13_getChars_11360 128 = .ok (.iinc 7 (-1), 3) := dz_132 (kBcJ13_getChars_11360_4 128 rfl rfl) (kBcJ13_getChars_11360_4 129 rfl rfl) (kBcJ13_getChars_11360_4 130 rfl rfl) rfl
theorem dJ13_getChars_11360_131 : decode cJ13_getChars_11360 131 = .ok (.iload 7, 2) := dz_21 (kBcJ13_getChars_11360_4 131 rfl rfl) (kBcJ13_getChars_11360_4 132 rfl rfl)
theorem dJ13_getChars_11360_133 : decode cJ13_getChars_11360 133 = .ok (.getstatic 137, 3) := dz_178 (kBcJ13_getChars_11360_4 133 rfl rfl) (kBcJ13_getChars_11360_4 134 rfl rfl) (kBcJ13_getChars_11360_4 135 rfl rfl) rfl
theorem dJ13_getChars_11360_136 : decode cJ13_getChars_11360 136 = .ok (.iload 6, 2) := dz_21 (kBcJ13_getChars_11360_4 136 rfl rfl) (kBcJ13_getChars_11360_4 137 rfl rfl)
theorem dJ13_getChars_11360_138 : decode cJ13_getChars_11360 138 = .ok (.baload, 1) := dz_51 (kBcJ13_getChars_11360_4 138 rfl rfl)
theorem dJ13_getChars_11360_139 : decode cJ13_getChars_11360 139 = .ok (.bastore, 1) := dz_84 (kBcJ13_getChars_11360_4 139 rfl rfl)
theorem dJ13_getChars_11360_140 : decode cJ13_getChars_11360 140 = .ok (.goto (-54), 3) := dz_167 (kBcJ13_getChars_11360_4 140 rfl rfl) (kBcJ13_getChars_11360_4 141 rfl rfl) (kBcJ13_getChars_11360_4 142 rfl rfl) rfl
theorem dJ13_getChars_11360_143 : decode cJ13_getChars_11360 143 = .ok (.aload_n 3, 1) := dz_45 (kBcJ13_getChars_11360_4 143 rfl rfl)
theorem dJ13_getChars_11360_144 : decode cJ13_getChars_11360 144 = .ok (.iinc 7 (-1), 3) := dz_132 (kBcJ13_getChars_11360_4 144 rfl rfl) (kBcJ13_getChars_11360_4 145 rfl rfl) (kBcJ13_getChars_11360_4 146 rfl rfl) rfl
theorem dJ13_getChars_11360_147 : decode cJ13_getChars_11360 147 = .ok (.iload 7, 2) := dz_21 (kBcJ13_getChars_11360_4 147 rfl rfl) (kBcJ13_getChars_11360_4 148 rfl rfl)
theorem dJ13_getChars_11360_149 : decode cJ13_getChars_11360 149 = .ok (.getstatic 133, 3) := dz_178 (kBcJ13_getChars_11360_4 149 rfl rfl) (kBcJ13_getChars_11360_4 150 rfl rfl) (kBcJ13_getChars_11360_4 151 rfl rfl) rfl
theorem dJ13_getChars_11360_152 : decode cJ13_getChars_11360 152 = .ok (.iload 10, 2) := dz_21 (kBcJ13_getChars_11360_4 152 rfl rfl) (kBcJ13_getChars_11360_4 153 rfl rfl)
theorem dJ13_getChars_11360_154 : decode cJ13_getChars_11360 154 = .ok (.ineg, 1) := dz_116 (kBcJ13_getChars_11360_4 154 rfl rfl)
theorem dJ13_getChars_11360_155 : decode cJ13_getChars_11360 155 = .ok (.baload, 1) := dz_51 (kBcJ13_getChars_11360_4 155 rfl rfl)
theorem dJ13_getChars_11360_156 : decode cJ13_getChars_11360 156 = .ok (.bastore, 1) := dz_84 (kBcJ13_getChars_11360_4 156 rfl rfl)
theorem dJ13_getChars_11360_157 : decode cJ13_getChars_11360 157 = .ok (.iload 10, 2) := dz_21 (kBcJ13_getChars_11360_4 157 rfl rfl) (kBcJ13_getChars_11360_4 158 rfl rfl)
theorem dJ13_getChars_11360_159 : decode cJ13_getChars_11360 159 = .ok (.bipush (-9), 2) := dz_16 (kBcJ13_getChars_11360_4 159 rfl rfl) (kBcJ13_getChars_11360_5 160 rfl rfl) rfl
theorem dJ13_getChars_11360_161 : decode cJ13_getChars_11360 161 = .ok (.if_icmp .ge 17, 3) := dz_162 (kBcJ13_getChars_11360_5 161 rfl rfl) (kBcJ13_getChars_11360_5 162 rfl rfl) (kBcJ13_getChars_11360_5 163 rfl rfl) rfl
theorem dJ13_getChars_11360_164 : decode cJ13_getChars_11360 164 = .ok (.aload_n 3, 1) := dz_45 (kBcJ13_getChars_11360_5 164 rfl rfl)
theorem dJ13_getChars_11360_165 : decode cJ13_getChars_11360 165 = .ok (.iinc 7 (-1), 3) := dz_132 (kBcJ13_getChars_11360_5 165 rfl rfl) (kBcJ13_getChars_11360_5 166 rfl rfl) (kBcJ13_getChars_11360_5 167 rfl rfl) rfl
theorem dJ13_getChars_11360_168 : decode cJ13_getChars_11360 168 = .ok (.iload 7, 2) := dz_21 (kBcJ13_getChars_11360_5 168 rfl rfl) (kBcJ13_getChars_11360_5 169 rfl rfl)
theorem dJ13_getChars_11360_170 : decode cJ13_getChars_11360 170 = .ok (.getstatic 137, 3) := dz_178 (kBcJ13_getChars_11360_5 170 rfl rfl) (kBcJ13_getChars_11360_5 171 rfl rfl) (kBcJ13_getChars_11360_5 172 rfl rfl) rfl
theorem dJ13_getChars_11360_173 : decode cJ13_getChars_11360 173 = .ok (.iload 10, 2) := dz_21 (kBcJ13_getChars_11360_5 173 rfl rfl) (kBcJ13_getChars_11360_5 174 rfl rfl)
theorem dJ13_getChars_11360_175 : decode cJ13_getChars_11360 175 = .ok (.ineg, 1) := dz_116 (kBcJ13_getChars_11360_5 175 rfl rfl)
theorem dJ13_getChars_11360_176 : decode cJ13_getChars_11360 176 = .ok (.baload, 1) := dz_51 (kBcJ13_getChars_11360_5 176 rfl rfl)
theorem dJ13_getChars_11360_177 : decode cJ13_getChars_11360 177 = .ok (.bastore, 1) := dz_84 (kBcJ13_getChars_11360_5 177 rfl rfl)
theorem dJ13_getChars_11360_178 : decode cJ13_getChars_11360 178 = .ok (.iload 8, 2) := dz_21 (kBcJ13_getChars_11360_5 178 rfl rfl) (kBcJ13_getChars_11360_5 179 rfl rfl)
theorem dJ13_getChars_11360_180 : decode cJ13_getChars_11360 180 = .ok (.ifCond .eq 12, 3) := dz_153 (kBcJ13_getChars_11360_5 180 rfl rfl) (kBcJ13_getChars_11360_5 181 rfl rfl) (kBcJ13_getChars_11360_5 182 rfl rfl) rfl
theorem dJ13_getChars_11360_183 : decode cJ13_getChars_11360 183 = .ok (.aload_n 3, 1) := dz_45 (kBcJ13_getChars_11360_5 183 rfl rfl)
theorem dJ13_getChars_11360_184 : decode cJ13_getChars_11360 184 = .ok (.iinc 7 (-1), 3) := dz_132 (kBcJ13_getChars_11360_5 184 rfl rfl) (kBcJ13_getChars_11360_5 185 rfl rfl) (kBcJ13_getChars_11360_5 186 rfl rfl) rfl
theorem dJ13_getChars_11360_187 : decode cJ13_getChars_11360 187 = .ok (.iload 7, 2) := dz_21 (kBcJ13_getChars_11360_5 187 rfl rfl) (kBcJ13_getChars_11360_5 188 rfl rfl)
theorem dJ13_getChars_11360_189 : decode cJ13_getChars_11360 189 = .ok (.bipush 45, 2) := dz_16 (kBcJ13_getChars_11360_5 189 rfl rfl) (kBcJ13_getChars_11360_5 190 rfl rfl) rfl
theorem dJ13_getChars_11360_191 : decode cJ13_getChars_11360 191 = .ok (.bastore, 1) := dz_84 (kBcJ13_getChars_11360_5 191 rfl rfl)
theorem dJ13_getChars_11360_192 : decode cJ13_getChars_11360 192 = .ok (.iload 7, 2) := dz_21 (kBcJ13_getChars_11360_6 192 rfl rfl) (kBcJ13_getChars_11360_6 193 rfl rfl)
theorem dJ13_getChars_11360_194 : decode cJ13_getChars_11360 194 = .ok (.ireturn, 1) := dz_172 (kBcJ13_getChars_11360_6 194 rfl rfl)
def kCcJ13_stringSize_95d88_0 : List Nat := [4, 61, 30, 9, 148, 155, 0, 8, 3, 61, 30, 117, 63, 20, 0, 140, 66, 4, 54, 5, 21, 5, 16, 19, 162, 0, 26, 30, 33, 148, 158, 0]
def kCcJ13_stringSize_95d88_1 : List Nat := [8, 21, 5, 28, 96, 172, 20, 0, 53, 33, 105, 66, 132, 5, 1, 167, 255, 229, 16, 19, 28, 96, 172]
def kRcJ13_stringSize_95d88_2 : List Nat := []
def kRcJ13_stringSize_95d88_1 : List Nat := kCcJ13_stringSize_95d88_1 ++ kRcJ13_stringSize_95d88_2
def kRcJ13_stringSize_95d88_0 : List Nat := kCcJ13_stringSize_95d88_0 ++ kRcJ13_stringSize_95d88_1
theorem kRcJ13_stringSize_95d88_eq : cJ13_stringSize_95d88.data.toList.map UInt8.toNat = kRcJ13_stringSize_95d88_0 := by decide +kernel
theorem katcJ13_stringSize_95d88_0 (i : Nat) : (cJ13_stringSize_95d88.data.toList.map UInt8.toNat)[0 + i]? = kRcJ13_stringSize_95d88_0[i]? := by rw [kRcJ13_stringSize_95d88_eq, Nat.zero_add]
theorem katcJ13_stringSize_95d88_1 : ∀ i : Nat, (cJ13_stringSize_95d88.data.toList.map UInt8.toNat)[32 + i]? = kRcJ13_stringSize_95d88_1[i]? := kstep katcJ13_stringSize_95d88_0 (C := kCcJ13_stringSize_95d88_0) rfl rfl
theorem kBcJ13_stringSize_95d88_0 {b : Nat} (p : Nat) (hp : Nat.ble 0 p = true) (h : kCcJ13_stringSize_95d88_0[p - 0]? = some b) : kb cJ13_stringSize_95d88 p b := kin katcJ13_stringSize_95d88_0 rfl hp h
theorem kBcJ13_stringSize_95d88_1 {b : Nat} (p : Nat) (hp : Nat.ble 32 p = true) (h : kCcJ13_stringSize_95d88_1[p - 32]? = some b) : kb cJ13_stringSize_95d88 p b := kin katcJ13_stringSize_95d88_1 rfl hp h
theorem dJ13_stringSize_95d88_0 : decode cJ13_stringSize_95d88 0 = .ok (.iconst 1, 1) := dz_4 (kBcJ13_stringSize_95d88_0 0 rfl rfl)
theorem dJ13_stringSize_95d88_1 : decode cJ13_stringSize_95d88 1 = .ok (.istore_n 2, 1) := dz_61 (kBcJ13_stringSize_95d88_0 1 rfl rfl)
theorem dJ13_stringSize_95d88_2 : decode cJ13_stringSize_95d88 2 = .ok (.lload_n 0, 1) := dz_30 (kBcJ13_stringSize_95d88_0 2 rfl rfl)
theorem dJ13_stringSize_95d88_3 : decode cJ13_stringSize_95d88 3 = .ok (.lconst 0, 1) := dz_9 (kBcJ13_stringSize_95d88_0 3 rfl rfl)
theorem dJ13_stringSize_95d88_4 : decode cJ13_stringSize_95d88 4 = .ok (.lcmp, 1) := dz_148 (kBcJ13_stringSize_95d88_0 4 rfl rfl)
theorem dJ13_stringSize_95d88_5 : decode cJ13_stringSize_95d88 5 = .ok (.ifCond .lt 8, 3) := dz_155 (kBcJ13_stringSize_95d88_0 5 rfl rfl) (kBcJ13_stringSize_95d88_0 6 rfl rfl) (kBcJ13_stringSize_95d88_0 7 rfl rfl) rfl
theorem dJ13_stringSize_95d88_8 : decode cJ13_stringSize_95d88 8 = .ok (.iconst 0, 1) := dz_3 (kBcJ13_stringSize_95d88_0 8 rfl rfl)
theorem dJ13_stringSize_95d88_9 : decode cJ13_stringSize_95d88 9 = .ok (.istore_n 2, 1) := dz_61 (kBcJ13_stringSize_95d88_0 9 rfl rfl)
theorem dJ13_stringSize_95d88_10 : decode cJ13_stringSize_95d88 10 = .ok (.lload_n 0, 1) := dz_30 (kBcJ13_stringSize_95d88_0 10 rfl rfl)
theorem dJ13_stringSize_95d88_11 : decode cJ13_stringSize_95d88 11 = .ok (.lneg, 1) := dz_117 (kBcJ13_stringSize_95d88_0 11 rfl rfl)
theorem dJ13_stringSize_95d88_12 : decode cJ13_stringSize_95d88 12 = .ok (.lstore_n 0, 1) := dz_63 (kBcJ13_stringSize_95d88_0 12 rfl rfl)
theorem dJ13_stringSize_95d88_13 : decode cJ13_stringSize_95d88 13 = .ok (.ldc2_w 140, 3) := dz_20 (kBcJ13_stringSize_95d88_0 13 rfl rfl) (kBcJ13_stringSize_95d88_0 14 rfl rfl) (kBcJ13_stringSize_95d88_0 15 rfl rfl) rfl
theorem dJ13_stringSize_95d88_16 : decode cJ13_stringSize_95d88 16 = .ok (.lstore_n 3, 1) := dz_66 (kBcJ13_stringSize_95d88_0 16 rfl rfl)
theorem dJ13_stringSize_95d88_17 : decode cJ13_stringSize_95d88 17 = .ok (.iconst 1, 1) := dz_4 (kBcJ13_stringSize_95d88_0 17 rfl rfl)
theorem dJ13_stringSize_95d88_18 : decode cJ13_stringSize_95d88 18 = .ok (.istore 5, 2) := dz_54 (kBcJ13_stringSize_95d88_0 18 rfl rfl) (kBcJ13_stringSize_95d88_0 19 rfl rfl)
theorem dJ13_stringSize_95d88_20 : decode cJ13_stringSize_95d88 20 = .ok (.iload 5, 2) := dz_21 (kBcJ13_stringSize_95d88_0 20 rfl rfl) (kBcJ13_stringSize_95d88_0 21 rfl rfl)
theorem dJ13_stringSize_95d88_22 : decode cJ13_stringSize_95d88 22 = .ok (.bipush 19, 2) := dz_16 (kBcJ13_stringSize_95d88_0 22 rfl rfl) (kBcJ13_stringSize_95d88_0 23 rfl rfl) rfl
theorem dJ13_stringSize_95d88_24 : decode cJ13_stringSize_95d88 24 = .ok (.if_icmp .ge 26, 3) := dz_162 (kBcJ13_stringSize_95d88_0 24 rfl rfl) (kBcJ13_stringSize_95d88_0 25 rfl rfl) (kBcJ13_stringSize_95d88_0 26 rfl rfl) rfl
theorem dJ13_stringSize_95d88_27 : decode cJ13_stringSize_95d88 27 = .ok (.lload_n 0, 1) := dz_30 (kBcJ13_stringSize_95d88_0 27 rfl rfl)
theorem dJ13_stringSize_95d88_28 : decode cJ13_stringSize_95d88 28 = .ok (.lload_n 3, 1) := dz_33 (kBcJ13_stringSize_95d88_0 28 rfl rfl)
theorem dJ13_stringSize_95d88_29 : decode cJ13_stringSize_95d88 29 = .ok (.lcmp, 1) := dz_148 (kBcJ13_stringSize_95d88_0 29 rfl rfl)
theorem dJ13_stringSize_95d88_30 : decode cJ13_stringSize_95d88 30 = .ok (.ifCond .le 8, 3) := dz_158 (kBcJ13_stringSize_95d88_0 30 rfl rfl) (kBcJ13_stringSize_95d88_0 31 rfl rfl) (kBcJ13_stringSize_95d88_1 32 rfl rfl) rfl
theorem dJ13_stringSize_95d88_33 : decode cJ13_stringSize_95d88 33 = .ok (.iload 5, 2) := dz_21 (kBcJ13_stringSize_95d88_1 33 rfl rfl) (kBcJ13_stringSize_95d88_1 34 rfl rfl)
theorem dJ13_stringSize_95d88_35 : decode cJ13_stringSize_95d88 35 = .ok (.iload_n 2, 1) := dz_28 (kBcJ13_stringSize_95d88_1 35 rfl rfl)
theorem dJ13_stringSize_95d88_36 : decode cJ13_stringSize_95d88 36 = .ok (.iadd, 1) := dz_96 (kBcJ13_stringSize_95d88_1 36 rfl rfl)
theorem dJ13_stringSize_95d88_37 : decode cJ13_stringSize_95d88 37 = .ok (.ireturn, 1) := dz_172 (kBcJ13_stringSize_95d88_1 37 rfl rfl)
theorem dJ13_stringSize_95d88_38 : decode cJ13_stringSize_95d88 38 = .ok (.ldc2_w 53, 3) := dz_20 (kBcJ13_stringSize_95d88_1 38 rfl rfl) (kBcJ13_stringSize_95d88_1 39 rfl rfl) (kBcJ13_stringSize_95d88_1 40 rfl rfl) rfl
theorem dJ13_stringSize_95d88_41 : decode cJ13_stringSize_95d88 41 = .ok (.lload_n 3, 1) := dz_33 (kBcJ13_stringSize_95d88_1 41 rfl rfl)
theorem dJ13_stringSize_95d88_42 : decode cJ13_stringSize_95d88 42 = .ok (.lmul, 1) := dz_105 (kBcJ13_stringSize_95d88_1 42 rfl rfl)
theorem dJ13_stringSize_95d88_43 : decode cJ13_stringSize_95d88 43 = .ok (.lstore_n 3, 1) := dz_66 (kBcJ13_stringSize_95d88_1 43 rfl rfl)
theorem dJ13_stringSize_95d88_44 : decode cJ13_stringSize_95d88 44 = .ok (.iinc 5 1, 3) := dz_132 (kBcJ13_stringSize_95d88_1 44 rfl rfl) (kBcJ13_stringSize_95d88_1 45 rfl rfl) (kBcJ13_stringSize_95d88_1 46 rfl rfl) rfl
theorem dJ13_stringSize_95d88_47 : decode cJ13_stringSize_95d88 47 = .ok (.goto (-27), 3) := dz_167 (kBcJ13_stringSize_95d88_1 47 rfl rfl) (kBcJ13_stringSize_95d88_1 48 rfl rfl) (kBcJ13_stringSize_95d88_1 49 rfl rfl) rfl
theorem dJ13_stringSize_95d88_50 : decode cJ13_stringSize_95d88 50 = .ok (.bipush 19, 2) := dz_16 (kBcJ13_stringSize_95d88_1 50 rfl rfl) (kBcJ13_stringSize_95d88_1 51 rfl rfl) rfl
theorem dJ13_stringSize_95d88_52 : decode cJ13_stringSize_95d88 52 = .ok (.iload_n 2, 1) := dz_28 (kBcJ13_stringSize_95d88_1 52 rfl rfl)
theorem dJ13_stringSize_95d88_53 : decode cJ13_stringSize_95d88 53 = .ok (.iadd, 1) := dz_96 (kBcJ13_stringSize_95d88_1 53 rfl rfl)
theorem dJ13_stringSize_95d88_54 : decode cJ13_stringSize_95d88 54 = .ok (.ireturn, 1) := dz_172 (kBcJ13_stringSize_95d88_1 54 rfl rfl)
def kCcJ9_floorDiv_f86c9_0 : List Nat := [30, 32, 109, 55, 4, 30, 32, 131, 9, 148, 156, 0, 17, 22, 4, 32, 105, 30, 148, 153, 0, 8, 22, 4, 10, 101, 173, 22, 4, 173]
theorem kRcJ9_floorDiv_f86c9_eq : cJ9_floorDiv_f86c9.data.toList.map UInt8.toNat = kCcJ9_floorDiv_f86c9_0 := by decide +kernel
theorem dJ9_floorDiv_f86c9_0 : decode cJ9_floorDiv_f86c9 0 = .ok (.lload_n 0, 1) := dz_30 (kin0 (p := 0) kRcJ9_floorDiv_f86c9_eq rfl)
theorem dJ9_floorDiv_f86c9_1 : decode cJ9_floorDiv_f86c9 1 = .ok (.lload_n 2, 1) := dz_32 (kin0 (p := 1) kRcJ9_floorDiv_f86c9_eq rfl)
theorem dJ9_floorDiv_f86c9_2 : decode cJ9_floorDiv_f86c9 2 = .ok (.ldiv, 1) := dz_109 (kin0 (p := 2) kRcJ9_floorDiv_f86c9_eq rfl)
theorem dJ9_floorDiv_f86c9_3 : decode cJ9_floorDiv_f86c9 3 = .ok (.lstore 4, 2) := dz_55 (kin0 (p := 3) kRcJ9_floorDiv_f86c9_eq rfl) (kin0 (p := 4) kRcJ9_floorDiv_f86c9_eq rfl)
theorem dJ9_floorDiv_f86c9_5 : decode cJ9_floorDiv_f86c9 5 = .ok (.lload_n 0, 1) := dz_30 (kin0 (p := 5) kRcJ9_floorDiv_f86c9_eq rfl)
theorem dJ9_floorDiv_f86c9_6 : decode cJ9_floorDiv_f86c9 6 = .ok (.lload_n 2, 1) := dz_32 (kin0 (p := 6) kRcJ9_floorDiv_f86c9_eq rfl)
theorem dJ9_floorDiv_f86c9_7 : decode cJ9_floorDiv_f86c9 7 = .ok (.lxor, 1) := dz_131 (kin0 (p := 7) kRcJ9_floorDiv_f86c9_eq rfl)
theorem dJ9_floorDiv_f86c9_8 : decode cJ9_floorDiv_f86c9 8 = .ok (.lconst 0, 1) := dz_9 (kin0 (p := 8) kRcJ9_floorDiv_f86c9_eq rfl)
theorem dJ9_floorDiv_f86c9_9 : decode cJ9_floorDiv_f86c9 9 = .ok (.lcmp, 1) := dz_148 (kin0 (p := 9) kRcJ9_floorDiv_f86c9_eq rfl)
theorem dJ9_floorDiv_f86c9_10 : decode cJ9_floorDiv_f86c9 10 = .ok (.ifCond .ge 17, 3) := dz_156 (kin0 (p := 10) kRcJ9_floorDiv_f86c9_eq rfl) (kin0 (p := 11) kRcJ9_floorDiv_f86c9_eq rfl) (kin0 (p := 12) kRcJ9_floorDiv_f86c9_eq rfl) rfl
theorem dJ9_floorDiv_f86c9_13 : decode cJ9_floorDiv_f86c9 13 = .ok (.lload 4, 2) := dz_22 (kin0 (p := 13) kRcJ9_floorDiv_f86c9_eq rfl) (kin0 (p := 14) kRcJ9_floorDiv_f86c9_eq rfl)
theorem dJ9_floorDiv_f86c9_15 : decode cJ9_floorDiv_f86c9 15 = .ok (.lload_n 2, 1) := dz_32 (kin0 (p := 15) kRcJ9_floorDiv_f86c9_eq rfl)
theorem dJ9_floorDiv_f86c9_16 : decode cJ9_floorDiv_f86c9 16 = .ok (.lmul, 1) := dz_105 (kin0 (p := 16) kRcJ9_floorDiv_f86c9_eq rfl)
theorem dJ9_floorDiv_f86c9_17 : decode cJ9_floorDiv_f86c9 17 = .ok (.lload_n 0, 1) := dz_30 (kin0 (p := 17) kRcJ9_floorDiv_f86c9_eq rfl)
theorem dJ9_floorDiv_f86c9_18 : decode cJ9_floorDiv_f86c9 18 = .ok (.lcmp, 1) := dz_148 (kin0 (p := 18) kRcJ9_floorDiv_f86c9_eq rfl)
theorem dJ9_floorDiv_f86c9_19 : decode cJ9_floorDiv_f86c9 19 = .ok (.ifCond .eq 8, 3) := dz_153 (kin0 (p := 19) kRcJ9_floorDiv_f86c9_eq rfl) (kin0 (p := 20) kRcJ9_floorDiv_f86c9_eq rfl) (kin0 (p := 21) kRcJ9_floorDiv_f86c9_eq rfl) rfl
theorem dJ9_floorDiv_f86c9_22 : decode cJ9_floorDiv_f86c9 22 = .ok (.lload 4, 2) := dz_22 (kin0 (p := 22) kRcJ9_floorDiv_f86c9_eq rfl) (kin0 (p := 23) kRcJ9_floorDiv_f86c9_eq rfl)
theorem dJ9_floorDiv_f86c9_24 : decode cJ9_floorDiv_f86c9 24 = .ok (.lconst 1, 1) := dz_10 (kin0 (p := 24) kRcJ9_floorDiv_f86c9_eq rfl)
theorem dJ9_floorDiv_f86c9_25 : decode cJ9_floorDiv_f86c9 25 = .ok (.lsub, 1) := dz_101 (kin0 (p := 25) kRcJ9_floorDiv_f86c9_eq rfl)
theorem dJ9_floorDiv_f86c9_26 : decode cJ9_floorDiv_f86c9 26 = .ok (.lreturn, 1) := dz_173 (kin0 (p := 26) kRcJ9_floorDiv_f86c9_eq rfl)
theorem dJ9_floorDiv_f86c9_27 : decode cJ9_floorDiv_f86c9 27 = .ok (.lload 4, 2) := dz_22 (kin0 (p := 27) kRcJ9_floorDiv_f86c9_eq rfl) (kin0 (p := 28) kRcJ9_floorDiv_f86c9_eq rfl)
theorem dJ9_floorDiv_f86c9_29 : decode cJ9_floorDiv_f86c9 29 = .ok (.lreturn, 1) := dz_173 (kin0 (p := 29) kRcJ9_floorDiv_f86c9_eq rfl)
def kCcJ9_floorMod_7cf53_0 : List Nat := [26, 27, 112, 61, 26, 27, 130, 156, 0, 11, 28, 153, 0, 7, 28, 27, 96, 172, 28, 172]
theorem kRcJ9_floorMod_7cf53_eq : cJ9_floorMod_7cf53.data.toList.map UInt8.toNat = kCcJ9_floorMod_7cf53_0 := by decide +kernel
theorem dJ9_floorMod_7cf53_0 : decode cJ9_floorMod_7cf53 0 = .ok (.iload_n 0, 1) := dz_26 (kin0 (p := 0) kRcJ9_floorMod_7cf53_eq rfl)
theorem dJ9_floorMod_7cf53_1 : decode cJ9_floorMod_7cf53 1 = .ok (.iload_n 1, 1) := dz_27 (kin0 (p := 1) kRcJ9_floorMod_7cf53_eq rfl)
theorem dJ9_floorMod_7cf53_2 : decode cJ9_floorMod_7cf53 2 = .ok (.irem, 1) := dz_112 (kin0 (p := 2) kRcJ9_floorMod_7cf53_eq rfl)
theorem dJ9_floorMod_7cf53_3 : decode cJ9_floorMod_7cf53 3 = .ok (.istore_n 2, 1) := dz_61 (kin0 (p := 3) kRcJ9_floorMod_7cf53_eq rfl)
theorem dJ9_floorMod_7cf53_4 : decode cJ9_floorMod_7cf53 4 = .ok (.iload_n 0, 1) := dz_26 (kin0 (p := 4) kRcJ9_floorMod_7cf53_eq rfl)
theorem dJ9_floorMod_7cf53_5 : decode cJ9_floorMod_7cf53 5 = .ok (.iload_n 1, 1) := dz_27 (kin0 (p := 5) kRcJ9_floorMod_7cf53_eq rfl)
theorem dJ9_floorMod_7cf53_6 : decode cJ9_floorMod_7cf53 6 = .ok (.ixor, 1) := dz_130 (kin0 (p := 6) kRcJ9_floorMod_7cf53_eq rfl)
theorem dJ9_floorMod_7cf53_7 : decode cJ9_floorMod_7cf53 7 = .ok (.ifCond .ge 11, 3) := dz_156 (kin0 (p := 7) kRcJ9_floorMod_7cf53_eq rfl) (kin0 (p := 8) kRcJ9_floorMod_7cf53_eq rfl) (kin0 (p := 9) kRcJ9_floorMod_7cf53_eq rfl) rfl
theorem dJ9_floorMod_7cf53_10 : decode cJ9_floorMod_7cf53 10 = .ok (.iload_n 2, 1) := dz_28 (kin0 (p := 10) kRcJ9_floorMod_7cf53_eq rfl)
theorem dJ9_floorMod_7cf53_11 : decode cJ9_floorMod_7cf53 11 = .ok (.ifCond .eq 7, 3) := dz_153 (kin0 (p := 11) kRcJ9_floorMod_7cf53_eq rfl) (kin0 (p := 12) kRcJ9_floorMod_7cf53_eq rfl) (kin0 (p := 13) kRcJ9_floorMod_7cf53_eq rfl) rfl
theorem dJ9_floorMod_7cf53_14 : decode cJ9_floorMod_7cf53 14 = .ok (.iload_n 2, 1) := dz_28 (kin0 (p := 14) kRcJ9_floorMod_7cf53_eq rfl)
theorem dJ9_floorMod_7cf53_15 : decode cJ9_floorMod_7cf53 15 = .ok (.iload_n 1, 1) := dz_27 (kin0 (p := 15) kRcJ9_floorMod_7cf53_eq rfl)
theorem dJ9_floorMod_7cf53_16 : decode cJ9_floorMod_7cf53 16 = .ok (.iadd, 1) := dz_96 (kin0 (p := 16) kRcJ9_floorMod_7cf53_eq rfl)
theorem dJ9_floorMod_7cf53_17 : decode cJ9_floorMod_7cf53 17 = .ok (.ireturn, 1) := dz_172 (kin0 (p := 17) kRcJ9_floorMod_7cf53_eq rfl)
theorem dJ9_floorMod_7cf53_18 : decode cJ9_floorMod_7cf53 18 = .ok (.iload_n 2, 1) := dz_28 (kin0 (p := 18) kRcJ9_floorMod_7cf53_eq rfl)
theorem dJ9_floorMod_7cf53_19 : decode cJ9_floorMod_7cf53 19 = .ok (.ireturn, 1) := dz_172 (kin0 (p := 19) kRcJ9_floorMod_7cf53_eq rfl)
def kCcJ9_floorMod_f86c9_0 : List Nat := [30, 32, 113, 55, 4, 30, 32, 131, 9, 148, 156, 0, 15, 22, 4, 9, 148, 153, 0, 8, 22, 4, 32, 97, 173, 22, 4, 173]
theorem kRcJ9_floorMod_f86c9_eq : cJ9_floorMod_f86c9.data.toList.map UInt8.toNat = kCcJ9_floorMod_f86c9_0 := by decide +kernel
theorem dJ9_floorMod_f86c9_0 : decode cJ9_floorMod_f86c9 0 = .ok (.lload_n 0, 1) := dz_30 (kin0 (p := 0) kRcJ9_floorMod_f86c9_eq rfl)
theorem dJ9_floorMod_f86c9_1 : decode cJ9_floorMod_f86c9 1 = .ok (.lload_n 2, 1) := dz_32 (kin0 (p := 1) kRcJ9_floorMod_f86c9_eq rfl)
theorem dJ9_floorMod_f86c9_2 : decode cJ9_floorMod_f86c9 2 = .ok (.lrem, 1) := dz_113 (kin0 (p := 2) kRcJ9_floorMod_f86c9_eq rfl)
theorem dJ9_floorMod_f86c9_3 : decode cJ9_floorMod_f86c9 3 = .ok (.lstore 4, 2) := dz_55 (kin0 (p := 3) kRcJ9_floorMod_f86c9_eq rfl) (kin0 (p := 4) kRcJ9_floorMod_f86c9_eq rfl)
theorem dJ9_floorMod_f86c9_5 : decode cJ9_floorMod_f86c9 5 = .ok (.lload_n 0, 1) := dz_30 (kin0 (p := 5) kRcJ9_floorMod_f86c9_eq rfl)
theorem dJ9_floorMod_f86c9_6 : decode cJ9_floorMod_f86c9 6 = .ok (.lload_n 2, 1) := dz_32 (kin0 (p := 6) kRcJ9_floorMod_f86c9_eq rfl)
theorem dJ9_floorMod_f86c9_7 : decode cJ9_floorMod_f86c9 7 = .ok (.lxor, 1) := dz_131 (kin0 (p := 7) kRcJ9_floorMod_f86c9_eq rfl)
theorem dJ9_floorMod_f86c9_8 : decode cJ9_floorMod_f86c9 8 = .ok (.lconst 0, 1) := dz_9 (kin0 (p := 8) kRcJ9_floorMod_f86c9_eq rfl)
theorem dJ9_floorMod_f86c9_9 : decode cJ9_floorMod_f86c9 9 = .ok (.lcmp, 1) := dz_148 (kin0 (p := 9) kRcJ9_floorMod_f86c9_eq rfl)
theorem dJ9_floorMod_f86c9_10 : decode cJ9_floorMod_f86c9 10 = .ok (.ifCond .ge 15, 3) := dz_156 (kin0 (p := 10) kRcJ9_floorMod_f86c9_eq rfl) (kin0 (p := 11) kRcJ9_floorMod_f86c9_eq rfl) (kin0 (p := 12) kRcJ9_floorMod_f86c9_eq rfl) rfl
theorem dJ9_floorMod_f86c9_13 : decode cJ9_floorMod_f86c9 13 = .ok (.lload 4, 2) := dz_22 (kin0 (p := 13) kRcJ9_floorMod_f86c9_eq rfl) (kin0 (p := 14) kRcJ9_floorMod_f86c9_eq rfl)
theorem dJ9_floorMod_f86c9_15 : decode cJ9_floorMod_f86c9 15 = .ok (.lconst 0, 1) := dz_9 (kin0 (p := 15) kRcJ9_floorMod_f86c9_eq rfl)
theorem dJ9_floorMod_f86c9_16 : decode cJ9_floorMod_f86c9 16 = .ok (.lcmp, 1) := dz_148 (kin0 (p := 16) kRcJ9_floorMod_f86c9_eq rfl)
theorem dJ9_floorMod_f86c9_17 : decode cJ9_floorMod_f86c9 17 = .ok (.ifCond .eq 8, 3) := dz_153 (kin0 (p := 17) kRcJ9_floorMod_f86c9_eq rfl) (kin0 (p := 18) kRcJ9_floorMod_f86c9_eq rfl) (kin0 (p := 19) kRcJ9_floorMod_f86c9_eq rfl) rfl
theorem dJ9_floorMod_f86c9_20 : decode cJ9_floorMod_f86c9 20 = .ok (.lload 4, 2) := dz_22 (kin0 (p := 20) kRcJ9_floorMod_f86c9_eq rfl) (kin0 (p := 21) kRcJ9_floorMod_f86c9_eq rfl)
theorem dJ9_floorMod_f86c9_22 : decode cJ9_floorMod_f86c9 22 = .ok (.lload_n 2, 1) := dz_32 (kin0 (p := 22) kRcJ9_floorMod_f86c9_eq rfl)
theorem dJ9_floorMod_f86c9_23 : decode cJ9_floorMod_f86c9 23 = .ok (.ladd, 1) := dz_97 (kin0 (p := 23) kRcJ9_floorMod_f86c9_eq rfl)
theorem dJ9_floorMod_f86c9_24 : decode cJ9_floorMod_f86c9 24 = .ok (.lreturn, 1) := dz_173 (kin0 (p := 24) kRcJ9_floorMod_f86c9_eq rfl)
theorem dJ9_floorMod_f86c9_25 : decode cJ9_floorMod_f86c9 25 = .ok (.lload 4, 2) := dz_22 (kin0 (p := 25) kRcJ9_floorMod_f86c9_eq rfl) (kin0 (p := 26) kRcJ9_floorMod_f86c9_eq rfl)
theorem dJ9_floorMod_f86c9_27 : decode cJ9_floorMod_f86c9 27 = .ok (.lreturn, 1) := dz_173 (kin0 (p := 27) kRcJ9_floorMod_f86c9_eq rfl)
def kCcJ9_max_7cf53_0 : List Nat := [26, 27, 161, 0, 7, 26, 167, 0, 4, 27, 172]
theorem kRcJ9_max_7cf53_eq : cJ9_max_7cf53.data.toList.map UInt8.toNat = kCcJ9_max_7cf53_0 := by decide +kernel
theorem dJ9_max_7cf53_0 : decode cJ9_max_7cf53 0 = .ok (.iload_n 0, 1) := dz_26 (kin0 (p := 0) kRcJ9_max_7cf53_eq rfl)
theorem dJ9_max_7cf53_1 : decode cJ9_max_7cf53 1 = .ok (.iload_n 1, 1) := dz_27 (kin0 (p := 1) kRcJ9_max_7cf53_eq rfl)
theorem dJ9_max_7cf53_2 : decode cJ9_max_7cf53 2 = .ok (.if_icmp .lt 7, 3) := dz_161 (kin0 (p := 2) kRcJ9_max_7cf53_eq rfl) (kin0 (p := 3) kRcJ9_max_7cf53_eq rfl) (kin0 (p := 4) kRcJ9_max_7cf53_eq rfl) rfl
theorem dJ9_max_7cf53_5 : decode cJ9_max_7cf53 5 = .ok (.iload_n 0, 1) := dz_26 (kin0 (p := 5) kRcJ9_max_7cf53_eq rfl)
theorem dJ9_max_7cf53_6 : decode cJ9_max_7cf53 6 = .ok (.goto 4, 3) := dz_167 (kin0 (p := 6) kRcJ9_max_7cf53_eq rfl) (kin0 (p := 7) kRcJ9_max_7cf53_eq rfl) (kin0 (p := 8) kRcJ9_max_7cf53_eq rfl) rfl
theorem dJ9_max_7cf53_9 : decode cJ9_max_7cf53 9 = .ok (.iload_n 1, 1) := dz_27 (kin0 (p := 9) kRcJ9_max_7cf53_eq rfl)
theorem dJ9_max_7cf53_10 : decode cJ9_max_7cf53 10 = .ok (.ireturn, 1) := dz_172 (kin0 (p := 10) kRcJ9_max_7cf53_eq rfl)
def kCcJ9_min_7cf53_0 : List Nat := [26, 27, 163, 0, 7, 26, 167, 0, 4, 27, 172]
theorem kRcJ9_min_7cf53_eq : cJ9_min_7cf53.data.toList.map UInt8.toNat = kCcJ9_min_7cf53_0 := by decide +kernel
theorem dJ9_min_7cf53_0 : decode cJ9_min_7cf53 0 = .ok (.iload_n 0, 1) := dz_26 (kin0 (p := 0) kRcJ9_min_7cf53_eq rfl)
theorem dJ9_min_7cf53_1 : decode cJ9_min_7cf53 1 = .ok (.iload_n 1, 1) := dz_27 (kin0 (p := 1) kRcJ9_min_7cf53_eq rfl)
theorem dJ9_min_7cf53_2 : decode cJ9_min_7cf53 2 = .ok (.if_icmp .gt 7, 3) := dz_163 (kin0 (p := 2) kRcJ9_min_7cf53_eq rfl) (kin0 (p := 3) kRcJ9_min_7cf53_eq rfl) (kin0 (p := 4) kRcJ9_min_7cf53_eq rfl) rfl
theorem dJ9_min_7cf53_5 : decode cJ9_min_7cf53 5 = .ok (.iload_n 0, 1) := dz_26 (kin0 (p := 5) kRcJ9_min_7cf53_eq rfl)
theorem dJ9_min_7cf53_6 : decode cJ9_min_7cf53 6 = .ok (.goto 4, 3) := dz_167 (kin0 (p := 6) kRcJ9_min_7cf53_eq rfl) (kin0 (p := 7) kRcJ9_min_7cf53_eq rfl) (kin0 (p := 8) kRcJ9_min_7cf53_eq rfl) rfl
theorem dJ9_min_7cf53_9 : decode cJ9_min_7cf53 9 = .ok (.iload_n 1, 1) := dz_27 (kin0 (p := 9) kRcJ9_min_7cf53_eq rfl)
theorem dJ9_min_7cf53_10 : decode cJ9_min_7cf53 10 = .ok (.ireturn, 1) := dz_172 (kin0 (p := 10) kRcJ9_min_7cf53_eq rfl)
def kCcJ0_init_81219_0 : List Nat := [42, 43, 1, 183, 1, 233, 177]
theorem kRcJ0_init_81219_eq : cJ0_init_81219.data.toList.map UInt8.toNat = kCcJ0_init_81219_0 := by decide +kernel
theorem dJ0_init_81219_0 : decode cJ0_init_81219 0 = .ok (.aload_n 0, 1) := dz_42 (kin0 (p := 0) kRcJ0_init_81219_eq rfl)
theorem dJ0_init_81219_1 : decode cJ0_init_81219 1 = .ok (.aload_n 1, 1) := dz_43 (kin0 (p := 1) kRcJ0_init_81219_eq rfl)
theorem dJ0_init_81219_2 : decode cJ0_init_81219 2 = .ok (.aconst_null, 1) := dz_1 (kin0 (p := 2) kRcJ0_init_81219_eq rfl)
theorem dJ0_init_81219_3 : decode cJ0_init_81219 3 = .ok (.invokespecial 489, 3) := dz_183 (kin0 (p := 3) kRcJ0_init_81219_eq rfl) (kin0 (p := 4) kRcJ0_init_81219_eq rfl) (kin0 (p := 5) kRcJ0_init_81219_eq rfl) rfl
theorem dJ0_init_81219_6 : decode cJ0_init_81219 6 = .ok (.return_, 1) := dz_177 (kin0 (p := 6) kRcJ0_init_81219_eq rfl)
def kCcJ0_length_8abf5_0 : List Nat := [42, 180, 0, 9, 190, 42, 182, 1, 79, 122, 172]
theorem kRcJ0_length_8abf5_eq : cJ0_length_8abf5.data.toList.map UInt8.toNat = kCcJ0_length_8abf5_0 := by decide +kernel
theorem dJ0_length_8abf5_0 : decode cJ0_length_8abf5 0 = .ok (.aload_n 0, 1) := dz_42 (kin0 (p := 0) kRcJ0_length_8abf5_eq rfl)
theorem dJ0_length_8abf5_1 : decode cJ0_length_8abf5 1 = .ok (.getfield 9, 3) := dz_180 (kin0 (p := 1) kRcJ0_length_8abf5_eq rfl) (kin0 (p := 2) kRcJ0_length_8abf5_eq rfl) (kin0 (p := 3) kRcJ0_length_8abf5_eq rfl) rfl
theorem dJ0_length_8abf5_4 : decode cJ0_length_8abf5 4 = .ok (.arraylength, 1) := dz_190 (kin0 (p := 4) kRcJ0_length_8abf5_eq rfl)
theorem dJ0_length_8abf5_5 : decode cJ0_length_8abf5 5 = .ok (.aload_n 0, 1) := dz_42 (kin0 (p := 5) kRcJ0_length_8abf5_eq rfl)
theorem dJ0_length_8abf5_6 : decode cJ0_length_8abf5 6 = .ok (.invokevirtual 335, 3) := dz_182 (kin0 (p := 6) kRcJ0_length_8abf5_eq rfl) (kin0 (p := 7) kRcJ0_length_8abf5_eq rfl) (kin0 (p := 8) kRcJ0_length_8abf5_eq rfl) rfl
theorem dJ0_length_8abf5_9 : decode cJ0_length_8abf5 9 = .ok (.ishr, 1) := dz_122 (kin0 (p := 9) kRcJ0_length_8abf5_eq rfl)
theorem dJ0_length_8abf5_10 : decode cJ0_length_8abf5 10 = .ok (.ireturn, 1) := dz_172 (kin0 (p := 10) kRcJ0_length_8abf5_eq rfl)
def kCcJ0_charAt_5068e_0 : List Nat := [42, 182, 1, 236, 153, 0, 12, 42, 180, 0, 9, 27, 184, 1, 239, 172, 42, 180, 0, 9, 27, 184, 1, 242, 172]
theorem kRcJ0_charAt_5068e_eq : cJ0_charAt_5068e.data.toList.map UInt8.toNat = kCcJ0_charAt_5068e_0 := by decide +kernel
theorem dJ0_charAt_5068e_0 : decode cJ0_charAt_5068e 0 = .ok (.aload_n 0, 1) := dz_42 (kin0 (p := 0) kRcJ0_charAt_5068e_eq rfl)
theorem dJ0_charAt_5068e_1 : decode cJ0_charAt_5068e 1 = .ok (.invokevirtual 492, 3) := dz_182 (kin0 (p := 1) kRcJ0_charAt_5068e_eq rfl) (kin0 (p := 2) kRcJ0_charAt_5068e_eq rfl) (kin0 (p := 3) kRcJ0_charAt_5068e_eq rfl) rfl
theorem dJ0_charAt_5068e_4 : decode cJ0_charAt_5068e 4 = .ok (.ifCond .eq 12, 3) := dz_153 (kin0 (p := 4) kRcJ0_charAt_5068e_eq rfl) (kin0 (p := 5) kRcJ0_charAt_5068e_eq rfl) (kin0 (p := 6) kRcJ0_charAt_5068e_eq rfl) rfl
theorem dJ0_charAt_5068e_7 : decode cJ0_charAt_5068e 7 = .ok (.aload_n 0, 1) := dz_42 (kin0 (p := 7) kRcJ0_charAt_5068e_eq rfl)
theorem dJ0_charAt_5068e_8 : decode cJ0_charAt_5068e 8 = .ok (.getfield 9, 3) := dz_180 (kin0 (p := 8) kRcJ0_charAt_5068e_eq rfl) (kin0 (p := 9) kRcJ0_charAt_5068e_eq rfl) (kin0 (p := 10) kRcJ0_charAt_5068e_eq rfl) rfl
theorem dJ0_charAt_5068e_11 : decode cJ0_charAt_5068e 11 = .ok (.iload_n 1, 1) := dz_27 (kin0 (p := 11) kRcJ0_charAt_5068e_eq rfl)
theorem dJ0_charAt_5068e_12 : decode cJ0_charAt_5068e 12 = .ok (.invokestatic 495, 3) := dz_184 (kin0 (p := 12) kRcJ0_charAt_5068e_eq rfl) (kin0 (p := 13) kRcJ0_charAt_5068e_eq rfl) (kin0 (p := 14) kRcJ0_charAt_5068e_eq rfl) rfl
theorem dJ0_charAt_5068e_15 : decode cJ0_charAt_5068e 15 = .ok (.ireturn, 1) := dz_172 (kin0 (p := 15) kRcJ0_charAt_5068e_eq rfl)
theorem dJ0_charAt_5068e_16 : decode cJ0_charAt_5068e 16 = .ok (.aload_n 0, 1) := dz_42 (kin0 (p := 16) kRcJ0_charAt_5068e_eq rfl)
theorem dJ0_charAt_5068e_17 : decode cJ0_charAt_5068e 17 = .ok (.getfield 9, 3) := dz_180 (kin0 (p := 17) kRcJ0_charAt_5068e_eq rfl) (kin0 (p := 18) kRcJ0_charAt_5068e_eq rfl) (kin0 (p := 19) kRcJ0_charAt_5068e_eq rfl) rfl
theorem dJ0_charAt_5068e_20 : decode cJ0_charAt_5068e 20 = .ok (.iload_n 1, 1) := dz_27 (kin0 (p := 20) kRcJ0_charAt_5068e_eq rfl)
theorem dJ0_charAt_5068e_21 : decode cJ0_charAt_5068e 21 = .ok (.invokestatic 498, 3) := dz_184 (kin0 (p := 21) kRcJ0_charAt_5068e_eq rfl) (kin0 (p := 22) kRcJ0_charAt_5068e_eq rfl) (kin0 (p := 23) kRcJ0_charAt_5068e_eq rfl) rfl
theorem dJ0_charAt_5068e_24 : decode cJ0_charAt_5068e 24 = .ok (.ireturn, 1) := dz_172 (kin0 (p := 24) kRcJ0_charAt_5068e_eq rfl)
def kCcJ0_equals_9ea2d_0 : List Nat := [42, 43, 166, 0, 5, 4, 172, 43, 193, 0, 10, 153, 0, 43, 43, 192, 0, 10, 77, 178, 0, 38, 153, 0, 14, 42, 180, 0, 15, 44, 180, 0]
def kCcJ0_equals_9ea2d_1 : List Nat := [15, 160, 0, 21, 42, 180, 0, 9, 44, 180, 0, 9, 184, 2, 29, 153, 0, 7, 4, 167, 0, 4, 3, 172]
def kRcJ0_equals_9ea2d_2 : List Nat := []
def kRcJ0_equals_9ea2d_1 : List Nat := kCcJ0_equals_9ea2d_1 ++ kRcJ0_equals_9ea2d_2
def kRcJ0_equals_9ea2d_0 : List Nat := kCcJ0_equals_9ea2d_0 ++ kRcJ0_equals_9ea2d_1
theorem kRcJ0_equals_9ea2d_eq : cJ0_equals_9ea2d.data.toList.map UInt8.toNat = kRcJ0_equals_9ea2d_0 := by decide +kernel
theorem katcJ0_equals_9ea2d_0 (i : Nat) : (cJ0_equals_9ea2d.data.toList.map UInt8.toNat)[0 + i]? = kRcJ0_equals_9ea2d_0[i]? := by rw [kRcJ0_equals_9ea2d_eq, Nat.zero_add]
theorem katcJ0_equals_9ea2d_1 : ∀ i : Nat, (cJ0_equals_9ea2d.data.toList.map UInt8.toNat)[32 + i]? = kRcJ0_equals_9ea2d_1[i]? := kstep katcJ0_equals_9ea2d_0 (C := kCcJ0_equals_9ea2d_0) rfl rfl
theorem kBcJ0_equals_9ea2d_0 {b : Nat} (p : Nat) (hp : Nat.ble 0 p = true) (h : kCcJ0_equals_9ea2d_0[p - 0]? = some b) : kb cJ0_equals_9ea2d p b := kin katcJ0_equals_9ea2d_0 rfl hp h
theorem kBcJ0_equals_9ea2d_1 {b : Nat} (p : Nat) (hp : Nat.ble 32 p = true) (h : kCcJ0_equals_9ea2d_1[p - 32]? = some b) : kb cJ0_equals_9ea2d p b := kin katcJ0_equals_9ea2d_1 rfl hp h
theorem dJ0_equals_9ea2d_0 : decode cJ0_equals_9ea2d 0 = .ok (.aload_n 0, 1) := dz_42 (kBcJ0_equals_9ea2d_0 0 rfl rfl)
theorem dJ0_equals_9ea2d_1 : decode cJ0_equals_9ea2d 1 = .ok (.aload_n 1, 1) := dz_43 (kBcJ0_equals_9ea2d_0 1 rfl rfl)
theorem dJ0_equals_9ea2d_2 : decode cJ0_equals_9ea2d 2 = .ok (.if_acmp .ne 5, 3) := dz_166 (kBcJ0_equals_9ea2d_0 2 rfl rfl) (kBcJ0_equals_9ea2d_0 3 rfl rfl) (kBcJ0_equals_9ea2d_0 4 rfl rfl) rfl
theorem dJ0_equals_9ea2d_5 : decode cJ0_equals_9ea2d 5 = .ok (.iconst 1, 1) := dz_4 (kBcJ0_equals_9ea2d_0 5 rfl rfl)
theorem dJ0_equals_9ea2d_6 : decode cJ0_equals_9ea2d 6 = .ok (.ireturn, 1) := dz_172 (kBcJ0_equals_9ea2d_0 6 rfl rfl)
theorem dJ0_equals_9ea2d_7 : decode cJ0_equals_9ea2d 7 = .ok (.aload_n 1, 1) := dz_43 (kBcJ0_equals_9ea2d_0 7 rfl rfl)
theorem dJ0_equals_9ea2d_8 : decode cJ0_equals_9ea2d 8 = .ok (.instanceof 10, 3) := dz_193 (kBcJ0_equals_9ea2d_0 8 rfl rfl) (kBcJ0_equals_9ea2d_0 9 rfl rfl) (kBcJ0_equals_9ea2d_0 10 rfl rfl) rfl
theorem dJ0_equals_9ea2d_11 : decode cJ0_equals_9ea2d 11 = .ok (.ifCond .eq 43, 3) := dz_153 (kBcJ0_equals_9ea2d_0 11 rfl rfl) (kBcJ0_equals_9ea2d_0 12 rfl rfl) (kBcJ0_equals_9ea2d_0 13 rfl rfl) rfl
theorem dJ0_equals_9ea2d_14 : decode cJ0_equals_9ea2d 14 = .ok (.aload_n 1, 1) := dz_43 (kBcJ0_equals_9ea2d_0 14 rfl rfl)
theorem dJ0_equals_9ea2d_15 : decode cJ0_equals_9ea2d 15 = .ok (.checkcast 10, 3) := dz_192 (kBcJ0_equals_9ea2d_0 15 rfl rfl) (kBcJ0_equals_9ea2d_0 16 rfl rfl) (kBcJ0_equals_9ea2d_0 17 rfl rfl) rfl
theorem dJ0_equals_9ea2d_18 : decode cJ0_equals_9ea2d 18 = .ok (.astore_n 2, 1) := dz_77 (kBcJ0_equals_9ea2d_0 18 rfl rfl)
theorem dJ0_equals_9ea2d_19 : decode cJ0_equals_9ea2d 19 = .ok (.getstatic 38, 3) := dz_178 (kBcJ0_equals_9ea2d_0 19 rfl rfl) (kBcJ0_equals_9ea2d_0 20 rfl rfl) (kBcJ0_equals_9ea2d_0 21 rfl rfl) rfl
theorem dJ0_equals_9ea2d_22 : decode cJ0_equals_9ea2d 22 = .ok (.ifCond .eq 14, 3) := dz_153 (kBcJ0_equals_9ea2d_0 22 rfl rfl) (kBcJ0_equals_9ea2d_0 23 rfl rfl) (kBcJ0_equals_9ea2d_0 24 rfl rfl) rfl
theorem dJ0_equals_9ea2d_25 : decode cJ0_equals_9ea2d 25 = .ok (.aload_n 0, 1) := dz_42 (kBcJ0_equals_9ea2d_0 25 rfl rfl)
theorem dJ0_equals_9ea2d_26 : decode cJ0_equals_9ea2d 26 = .ok (.getfield 15, 3) := dz_180 (kBcJ0_equals_9ea2d_0 26 rfl rfl) (kBcJ0_equals_9ea2d_0 27 rfl rfl) (kBcJ0_equals_9ea2d_0 28 rfl rfl) rfl
theorem dJ0_equals_9ea2d_29 : decode cJ0_equals_9ea2d 29 = .ok (.aload_n 2, 1) := dz_44 (kBcJ0_equals_9ea2d_0 29 rfl rfl)
theorem dJ0_equals_9ea2d_30 : decode cJ0_equals_9ea2d 30 = .ok (.getfield 15, 3) := dz_180 (kBcJ0_equals_9ea2d_0 30 rfl rfl) (kBcJ0_equals_9ea2d_0 31 rfl rfl) (kBcJ0_equals_9ea2d_1 32 rfl rfl) rfl
theorem dJ0_equals_9ea2d_33 : decode cJ0_equals_9ea2d 33 = .ok (.if_icmp .ne 21, 3) := dz_160 (kBcJ0_equals_9ea2d_1 33 rfl rfl) (kBcJ0_equals_9ea2d_1 34 rfl rfl) (kBcJ0_equals_9ea2d_1 35 rfl rfl) rfl
theorem dJ0_equals_9ea2d_36 : decode cJ0_equals_9ea2d 36 = .ok (.aload_n 0, 1) := dz_42 (kBcJ0_equals_9ea2d_1 36 rfl rfl)
theorem dJ0_equals_9ea2d_37 : decode cJ0_equals_9ea2d 37 = .ok (.getfield 9, 3) := dz_180 (kBcJ0_equals_9ea2d_1 37 rfl rfl) (kBcJ0_equals_9ea2d_1 38 rfl rfl) (kBcJ0_equals_9ea2d_1 39 rfl rfl) rfl
theorem dJ0_equals_9ea2d_40 : decode cJ0_equals_9ea2d 40 = .ok (.aload_n 2, 1) := dz_44 (kBcJ0_equals_9ea2d_1 40 rfl rfl)
theorem dJ0_equals_9ea2d_41 : decode cJ0_equals_9ea2d 41 = .ok (.getfield 9, 3) := dz_180 (kBcJ0_equals_9ea2d_1 41 rfl rfl) (kBcJ0_equals_9ea2d_1 42 rfl rfl) (kBcJ0_equals_9ea2d_1 43 rfl rfl) rfl
theorem dJ0_equals_9ea2d_44 : decode cJ0_equals_9ea2d 44 = .ok (.invokestatic 541, 3) := dz_184 (kBcJ0_equals_9ea2d_1 44 rfl rfl) (kBcJ0_equals_9ea2d_1 45 rfl rfl) (kBcJ0_equals_9ea2d_1 46 rfl rfl) rfl
theorem dJ0_equals_9ea2d_47 : decode cJ0_equals_9ea2d 47 = .ok (.ifCond .eq 7, 3) := dz_153 (kBcJ0_equals_9ea2d_1 47 rfl rfl) (kBcJ0_equals_9ea2d_1 48 rfl rfl) (kBcJ0_equals_9ea2d_1 49 rfl rfl) rfl
theorem dJ0_equals_9ea2d_50 : decode cJ0_equals_9ea2d 50 = .ok (.iconst 1, 1) := dz_4 (kBcJ0_equals_9ea2d_1 50 rfl rfl)
theorem dJ0_equals_9ea2d_51 : decode cJ0_equals_9ea2d 51 = .ok (.goto 4, 3) := dz_167 (kBcJ0_equals_9ea2d_1 51 rfl rfl) (kBcJ0_equals_9ea2d_1 52 rfl rfl) (kBcJ0_equals_9ea2d_1 53 rfl rfl) rfl
theorem dJ0_equals_9ea2d_54 : decode cJ0_equals_9ea2d 54 = .ok (.iconst 0, 1) := dz_3 (kBcJ0_equals_9ea2d_1 54 rfl rfl)
theorem dJ0_equals_9ea2d_55 : decode cJ0_equals_9ea2d 55 = .ok (.ireturn, 1) := dz_172 (kBcJ0_equals_9ea2d_1 55 rfl rfl)
def kCcJ0_getBytes_840e7_0 : List Nat := [42, 182, 1, 79, 29, 160, 0, 23, 42, 180, 0, 9, 3, 43, 28, 29, 120, 42, 180, 0, 9, 190, 184, 0, 212, 167, 0, 18, 42, 180, 0, 9]
def kCcJ0_getBytes_840e7_1 : List Nat := [3, 43, 28, 42, 180, 0, 9, 190, 184, 0, 106, 177]
def kRcJ0_getBytes_840e7_2 : List Nat := []
def kRcJ0_getBytes_840e7_1 : List Nat := kCcJ0_getBytes_840e7_1 ++ kRcJ0_getBytes_840e7_2
def kRcJ0_getBytes_840e7_0 : List Nat := kCcJ0_getBytes_840e7_0 ++ kRcJ0_getBytes_840e7_1
theorem kRcJ0_getBytes_840e7_eq : cJ0_getBytes_840e7.data.toList.map UInt8.toNat = kRcJ0_getBytes_840e7_0 := by decide +kernel
theorem katcJ0_getBytes_840e7_0 (i : Nat) : (cJ0_getBytes_840e7.data.toList.map UInt8.toNat)[0 + i]? = kRcJ0_getBytes_840e7_0[i]? := by rw [kRcJ0_getBytes_840e7_eq, Nat.zero_add]
theorem katcJ0_getBytes_840e7_1 : ∀ i : Nat, (cJ0_getBytes_840e7.data.toList.map UInt8.toNat)[32 + i]? = kRcJ0_getBytes_840e7_1[i]? := kstep katcJ0_getBytes_840e7_0 (C := kCcJ0_getBytes_840e7_0) rfl rfl
theorem kBcJ0_getBytes_840e7_0 {b : Nat} (p : Nat) (hp : Nat.ble 0 p = true) (h : kCcJ0_getBytes_840e7_0[p - 0]? = some b) : kb cJ0_getBytes_840e7 p b := kin katcJ0_getBytes_840e7_0 rfl hp h
theorem kBcJ0_getBytes_840e7_1 {b : Nat} (p : Nat) (hp : Nat.ble 32 p = true) (h : kCcJ0_getBytes_840e7_1[p - 32]? = some b) : kb cJ0_getBytes_840e7 p b := kin katcJ0_getBytes_840e7_1 rfl hp h
theorem dJ0_getBytes_840e7_0 : decode cJ0_getBytes_840e7 0 = .ok (.aload_n 0, 1) := dz_42 (kBcJ0_getBytes_840e7_0 0 rfl rfl)
theorem dJ0_getBytes_840e7_1 : decode cJ0_getBytes_840e7 1 = .ok (.invokevirtual 335, 3) := dz_182 (kBcJ0_getBytes_840e7_0 1 rfl rfl) (kBcJ0_getBytes_840e7_0 2 rfl rfl) (kBcJ0_getBytes_840e7_0 3 rfl rfl) rfl
theorem dJ0_getBytes_840e7_4 : decode cJ0_getBytes_840e7 4 = .ok (.iload_n 3, 1) := dz_29 (kBcJ0_getBytes_840e7_0 4 rfl rfl)
theorem dJ0_getBytes_840e7_5 : decode cJ0_getBytes_840e7 5 = .ok (.if_icmp .ne 23, 3) := dz_160 (kBcJ0_getBytes_840e7_0 5 rfl rfl) (kBcJ0_getBytes_840e7_0 6 rfl rfl) (kBcJ0_getBytes_840e7_0 7 rfl rfl) rfl
theorem dJ0_getBytes_840e7_8 : decode cJ0_getBytes_840e7 8 = .ok (.aload_n 0, 1) := dz_42 (kBcJ0_getBytes_840e7_0 8 rfl rfl)
theorem dJ0_getBytes_840e7_9 : decode cJ0_getBytes_840e7 9 = .ok (.getfield 9, 3) := dz_180 (kBcJ0_getBytes_840e7_0 9 rfl rfl) (kBcJ0_getBytes_840e7_0 10 rfl rfl) (kBcJ0_getBytes_840e7_0 11 rfl rfl) rfl
theorem dJ0_getBytes_840e7_12 : decode cJ0_getBytes_840e7 12 = .ok (.iconst 0, 1) := dz_3 (kBcJ0_getBytes_840e7_0 12 rfl rfl)
theorem dJ0_getBytes_840e7_13 : decode cJ0_getBytes_840e7 13 = .ok (.aload_n 1, 1) := dz_43 (kBcJ0_getBytes_840e7_0 13 rfl rfl)
theorem dJ0_getBytes_840e7_14 : decode cJ0_getBytes_840e7 14 = .ok (.iload_n 2, 1) := dz_28 (kBcJ0_getBytes_840e7_0 14 rfl rfl)
theorem dJ0_getBytes_840e7_15 : decode cJ0_getBytes_840e7 15 = .ok (.iload_n 3, 1) := dz_29 (kBcJ0_getBytes_840e7_0 15 rfl rfl)
theorem dJ0_getBytes_840e7_16 : decode cJ0_getBytes_840e7 16 = .ok (.ishl, 1) := dz_120 (kBcJ0_getBytes_840e7_0 16 rfl rfl)
theorem dJ0_getBytes_840e7_17 : decode cJ0_getBytes_840e7 17 = .ok (.aload_n 0, 1) := dz_42 (kBcJ0_getBytes_840e7_0 17 rfl rfl)
theorem dJ0_getBytes_840e7_18 : decode cJ0_getBytes_840e7 18 = .ok (.getfield 9, 3) := dz_180 (kBcJ0_getBytes_840e7_0 18 rfl rfl) (kBcJ0_getBytes_840e7_0 19 rfl rfl) (kBcJ0_getBytes_840e7_0 20 rfl rfl) rfl
theorem dJ0_getBytes_840e7_21 : decode cJ0_getBytes_840e7 21 = .ok (.arraylength, 1) := dz_190 (kBcJ0_getBytes_840e7_0 21 rfl rfl)
theorem dJ0_getBytes_840e7_22 : decode cJ0_getBytes_840e7 22 = .ok (.invokestatic 212, 3) := dz_184 (kBcJ0_getBytes_840e7_0 22 rfl rfl) (kBcJ0_getBytes_840e7_0 23 rfl rfl) (kBcJ0_getBytes_840e7_0 24 rfl rfl) rfl
theorem dJ0_getBytes_840e7_25 : decode cJ0_getBytes_840e7 25 = .ok (.goto 18, 3) := dz_167 (kBcJ0_getBytes_840e7_0 25 rfl rfl) (kBcJ0_getBytes_840e7_0 26 rfl rfl) (kBcJ0_getBytes_840e7_0 27 rfl rfl) rfl
theorem dJ0_getBytes_840e7_28 : decode cJ0_getBytes_840e7 28 = .ok (.aload_n 0, 1) := dz_42 (kBcJ0_getBytes_840e7_0 28 rfl rfl)
theorem dJ0_getBytes_840e7_29 : decode cJ0_getBytes_840e7 29 = .ok (.getfield 9, 3) := dz_180 (kBcJ0_getBytes_840e7_0 29 rfl rfl) (kBcJ0_getBytes_840e7_0 30 rfl rfl) (kBcJ0_getBytes_840e7_0 31 rfl rfl) rfl
theorem dJ0_getBytes_840e7_32 : decode cJ0_getBytes_840e7 32 = .ok (.iconst 0, 1) := dz_3 (kBcJ0_getBytes_840e7_1 32 rfl rfl)
theorem dJ0_getBytes_840e7_33 : decode cJ0_getBytes_840e7 33 = .ok (.aload_n 1, 1) := dz_43 (kBcJ0_getBytes_840e7_1 33 rfl rfl)
theorem dJ0_getBytes_840e7_34 : decode cJ0_getBytes_840e7 34 = .ok (.iload_n 2, 1) := dz_28 (kBcJ0_getBytes_840e7_1 34 rfl rfl)
theorem dJ0_getBytes_840e7_35 : decode cJ0_getBytes_840e7 35 = .ok (.aload_n 0, 1) := dz_42 (kBcJ0_getBytes_840e7_1 35 rfl rfl)
theorem dJ0_getBytes_840e7_36 : decode cJ0_getBytes_840e7 36 = .ok (.getfield 9, 3) := dz_180 (kBcJ0_getBytes_840e7_1 36 rfl rfl) (kBcJ0_getBytes_840e7_1 37 rfl rfl) (kBcJ0_getBytes_840e7_1 38 rfl rfl) rfl
theorem dJ0_getBytes_840e7_39 : decode cJ0_getBytes_840e7 39 = .ok (.arraylength, 1) := dz_190 (kBcJ0_getBytes_840e7_1 39 rfl rfl)
theorem dJ0_getBytes_840e7_40 : decode cJ0_getBytes_840e7 40 = .ok (.invokestatic 106, 3) := dz_184 (kBcJ0_getBytes_840e7_1 40 rfl rfl) (kBcJ0_getBytes_840e7_1 41 rfl rfl) (kBcJ0_getBytes_840e7_1 42 rfl rfl) rfl
theorem dJ0_getBytes_840e7_43 : decode cJ0_getBytes_840e7 43 = .ok (.return_, 1) := dz_177 (kBcJ0_getBytes_840e7_1 43 rfl rfl)
def kCcJ0_init_db425_0 : List Nat := [42, 183, 0, 1, 43, 182, 2, 40, 78, 43, 182, 2, 37, 54, 4, 43, 182, 4, 23, 153, 0, 22, 42, 3, 181, 0, 15, 42, 45, 3, 21, 4]
def kCcJ0_init_db425_1 : List Nat := [184, 0, 54, 181, 0, 9, 167, 0, 59, 178, 0, 38, 153, 0, 35, 43, 180, 4, 24, 153, 0, 28, 42, 45, 3, 21, 4, 184, 4, 27, 181, 0]
def kCcJ0_init_db425_2 : List Nat := [9, 42, 42, 180, 0, 9, 21, 4, 184, 0, 47, 181, 0, 15, 177, 42, 4, 181, 0, 15, 42, 45, 3, 21, 4, 4, 120, 184, 0, 54, 181, 0]
def kCcJ0_init_db425_3 : List Nat := [9, 177]
def kRcJ0_init_db425_4 : List Nat := []
def kRcJ0_init_db425_3 : List Nat := kCcJ0_init_db425_3 ++ kRcJ0_init_db425_4
def kRcJ0_init_db425_2 : List Nat := kCcJ0_init_db425_2 ++ kRcJ0_init_db425_3
def kRcJ0_init_db425_1 : List Nat := kCcJ0_init_db425_1 ++ kRcJ0_init_db425_2
def kRcJ0_init_db425_0 : List Nat := kCcJ0_init_db425_0 ++ kRcJ0_init_db425_1
theorem kRcJ0_init_db425_eq : cJ0_init_db425.data.toList.map UInt8.toNat = kRcJ0_init_db425_0 := by decide +kernel
theorem katcJ0_init_db425_0 (i : Nat) : (cJ0_init_db425.data.toList.map UInt8.toNat)[0 + i]? = kRcJ0_init_db425_0[i]? := by rw [kRcJ0_init_db425_eq, Nat.zero_add]
theorem katcJ0_init_db425_1 : ∀ i : Nat, (cJ0_init_db425.data.toList.map UInt8.toNat)[32 + i]? = kRcJ0_init_db425_1[i]? := kstep katcJ0_init_db425_0 (C := kCcJ0_init_db425_0) rfl rfl
theorem katcJ0_init_db425_2 : ∀ i : Nat, (cJ0_init_db425.data.toList.map UInt8.toNat)[64 + i]? = kRcJ0_init_db425_2[i]? := kstep katcJ0_init_db425_1 (C := kCcJ0_init_db425_1) rfl rfl
theorem katcJ0_init_db425_3 : ∀ i : Nat, (cJ0_init_db425.data.toList.map UInt8.toNat)[96 + i]? = kRcJ0_init_db425_3[i]? := kstep katcJ0_init_db425_2 (C := kCcJ0_init_db425_2) rfl rfl
theorem kBcJ0_init_db425_0 {b : Nat} (p : Nat) (hp : Nat.ble 0 p = true) (h : kCcJ0_init_db425_0[p - 0]? = some b) : kb cJ0_init_db425 p b := kin katcJ0_init_db425_0 rfl hp h
theorem kBcJ0_init_db425_1 {b : Nat} (p : Nat) (hp : Nat.ble 32 p = true) (h : kCcJ0_init_db425_1[p - 32]? = some b) : kb cJ0_init_db425 p b := kin katcJ0_init_db425_1 rfl hp h
theorem kBcJ0_init_db425_2 {b : Nat} (p : Nat) (hp : Nat.ble 64 p = true) (h : kCcJ0_init_db425_2[p - 64]? = some b) : kb cJ0_init_db425 p b := kin katcJ0_init_db425_2 rfl hp h
theorem kBcJ0_init_db425_3 {b : Nat} (p : Nat) (hp : Nat.ble 96 p = true) (h : kCcJ0_init_db425_3[p - 96]? = some b) : kb cJ0_init_db425 p b := kin katcJ0_init_db425_3 rfl hp h
theorem dJ0_init_db425_0 : decode cJ0_init_db425 0 = .ok (.aload_n 0, 1) := dz_42 (kBcJ0_init_db425_0 0 rfl rfl)
theorem dJ0_init_db425_1 : decode cJ0_init_db425 1 = .ok (.invokespecial 1, 3) := dz_183 (kBcJ0_init_db425_0 1 rfl rfl) (kBcJ0_init_db425_0 2 rfl rfl) (kBcJ0_init_db425_0 3 rfl rfl) rfl
theorem dJ0_init_db425_4 : decode cJ0_init_db425 4 = .ok (.aload_n 1, 1) := dz_43 (kBcJ0_init_db425_0 4 rfl rfl)
theorem dJ0_init_db425_5 : decode cJ0_init_db425 5 = .ok (.invokevirtual 552, 3) := dz_182 (kBcJ0_init_db425_0 5 rfl rfl) (kBcJ0_init_db425_0 6 rfl rfl) (kBcJ0_init_db425_0 7 rfl rfl) rfl
theorem dJ0_init_db425_8 : decode cJ0_init_db425 8 = .ok (.astore_n 3, 1) := dz_78 (kBcJ0_init_db425_0 8 rfl rfl)
theorem dJ0_init_db425_9 : decode cJ0_init_db425 9 = .ok (.aload_n 1, 1) := dz_43 (kBcJ0_init_db425_0 9 rfl rfl)
theorem dJ0_init_db425_10 : decode cJ0_init_db425 10 = .ok (.invokevirtual 549, 3) := dz_182 (kBcJ0_init_db425_0 10 rfl rfl) (kBcJ0_init_db425_0 11 rfl rfl) (kBcJ0_init_db425_0 12 rfl rfl) rfl
theorem dJ0_init_db425_13 : decode cJ0_init_db425 13 = .ok (.istore 4, 2) := dz_54 (kBcJ0_init_db425_0 13 rfl rfl) (kBcJ0_init_db425_0 14 rfl rfl)
theorem dJ0_init_db425_15 : decode cJ0_init_db425 15 = .ok (.aload_n 1, 1) := dz_43 (kBcJ0_init_db425_0 15 rfl rfl)
theorem dJ0_init_db425_16 : decode cJ0_init_db425 16 = .ok (.invokevirtual 1047, 3) := dz_182 (kBcJ0_init_db425_0 16 rfl rfl) (kBcJ0_init_db425_0 17 rfl rfl) (kBcJ0_init_db425_0 18 rfl rfl) rfl
theorem dJ0_init_db425_19 : decode cJ0_init_db425 19 = .ok (.ifCond .eq 22, 3) := dz_153 (kBcJ0_init_db425_0 19 rfl rfl) (kBcJ0_init_db425_0 20 rfl rfl) (kBcJ0_init_db425_0 21 rfl rfl) rfl
theorem dJ0_init_db425_22 : decode cJ0_init_db425 22 = .ok (.aload_n 0, 1) := dz_42 (kBcJ0_init_db425_0 22 rfl rfl)
theorem dJ0_init_db425_23 : decode cJ0_init_db425 23 = .ok (.iconst 0, 1) := dz_3 (kBcJ0_init_db425_0 23 rfl rfl)
theorem dJ0_init_db425_24 : decode cJ0_init_db425 24 = .ok (.putfield 15, 3) := dz_181 (kBcJ0_init_db425_0 24 rfl rfl) (kBcJ0_init_db425_0 25 rfl rfl) (kBcJ0_init_db425_0 26 rfl rfl) rfl
theorem dJ0_init_db425_27 : decode cJ0_init_db425 27 = .ok (.aload_n 0, 1) := dz_42 (kBcJ0_init_db425_0 27 rfl rfl)
theorem dJ0_init_db425_28 : decode cJ0_init_db425 28 = .ok (.aload_n 3, 1) := dz_45 (kBcJ0_init_db425_0 28 rfl rfl)
theorem dJ0_init_db425_29 : decode cJ0_init_db425 29 = .ok (.iconst 0, 1) := dz_3 (kBcJ0_init_db425_0 29 rfl rfl)
theorem dJ0_init_db425_30 : decode cJ0_init_db425 30 = .ok (.iload 4, 2) := dz_21 (kBcJ0_init_db425_0 30 rfl rfl) (kBcJ0_init_db425_0 31 rfl rfl)
theorem dJ0_init_db425_32 : decode cJ0_init_db425 32 = .ok (.invokestatic 54, 3) := dz_184 (kBcJ0_init_db425_1 32 rfl rfl) (kBcJ0_init_db425_1 33 rfl rfl) (kBcJ0_init_db425_1 34 rfl rfl) rfl
theorem dJ0_init_db425_35 : decode cJ0_init_db425 35 = .ok (.putfield 9, 3) := dz_181 (kBcJ0_init_db425_1 35 rfl rfl) (kBcJ0_init_db425_1 36 rfl rfl) (kBcJ0_init_db425_1 37 rfl rfl) rfl
theorem dJ0_init_db425_38 : decode cJ0_init_db425 38 = .ok (.goto 59, 3) := dz_167 (kBcJ0_init_db425_1 38 rfl rfl) (kBcJ0_init_db425_1 39 rfl rfl) (kBcJ0_init_db425_1 40 rfl rfl) rfl
theorem dJ0_init_db425_41 : decode cJ0_init_db425 41 = .ok (.getstatic 38, 3) := dz_178 (kBcJ0_init_db425_1 41 rfl rfl) (kBcJ0_init_db425_1 42 rfl rfl) (kBcJ0_init_db425_1 43 rfl rfl) rfl
theorem dJ0_init_db425_44 : decode cJ0_init_db425 44 = .ok (.ifCond .eq 35, 3) := dz_153 (kBcJ0_init_db425_1 44 rfl rfl) (kBcJ0_init_db425_1 45 rfl rfl) (kBcJ0_init_db425_1 46 rfl rfl) rfl
theorem dJ0_init_db425_47 : decode cJ0_init_db425 47 = .ok (.aload_n 1, 1) := dz_43 (kBcJ0_init_db425_1 47 rfl rfl)
theorem dJ0_init_db425_48 : decode cJ0_init_db425 48 = .ok (.getfield 1048, 3) := dz_180 (kBcJ0_init_db425_1 48 rfl rfl) (kBcJ0_init_db425_1 49 rfl rfl) (kBcJ0_init_db425_1 50 rfl rfl) rfl
theorem dJ0_init_db425_51 : decode cJ0_init_db425 51 = .ok (.ifCond .eq 28, 3) := dz_153 (kBcJ0_init_db425_1 51 rfl rfl) (kBcJ0_init_db425_1 52 rfl rfl) (kBcJ0_init_db425_1 53 rfl rfl) rfl
theorem dJ0_init_db425_54 : decode cJ0_init_db425 54 = .ok (.aload_n 0, 1) := dz_42 (kBcJ0_init_db425_1 54 rfl rfl)
theorem dJ0_init_db425_55 : decode cJ0_init_db425 55 = .ok (.aload_n 3, 1) := dz_45 (kBcJ0_init_db425_1 55 rfl rfl)
theorem dJ0_init_db425_56 : decode cJ0_init_db425 56 = .ok (.iconst 0, 1) := dz_3 (kBcJ0_init_db425_1 56 rfl rfl)
theorem dJ0_init_db425_57 : decode cJ0_init_db425 57 = .ok (.iload 4, 2) := dz_21 (kBcJ0_init_db425_1 57 rfl rfl) (kBcJ0_init_db425_1 58 rfl rfl)
theorem dJ0_init_db425_59 : decode cJ0_init_db425 59 = .ok (.invokestatic 1051, 3) := dz_184 (kBcJ0_init_db425_1 59 rfl rfl) (kBcJ0_init_db425_1 60 rfl rfl) (kBcJ0_init_db425_1 61 rfl rfl) rfl
theorem dJ0_init_db425_62 : decode cJ0_init_db425 62 = .ok (.putfield 9, 3) := dz_181 (kBcJ0_init_db425_1 62 rfl rfl) (kBcJ0_init_db425_1 63 rfl rfl) (kBcJ0_init_db425_2 64 rfl rfl) rfl
theorem dJ0_init_db425_65 : decode cJ0_init_db425 65 = .ok (.aload_n 0, 1) := dz_42 (kBcJ0_init_db425_2 65 rfl rfl)
theorem dJ0_init_db425_66 : decode cJ0_init_db425 66 = .ok (.aload_n 0, 1) := dz_42 (kBcJ0_init_db425_2 66 rfl rfl)
theorem dJ0_init_db425_67 : decode cJ0_init_db425 67 = .ok (.getfield 9, 3) := dz_180 (kBcJ0_init_db425_2 67 rfl rfl) (kBcJ0_init_db425_2 68 rfl rfl) (kBcJ0_init_db425_2 69 rfl rfl) rfl
theorem dJ0_init_db425_70 : decode cJ0_init_db425 70 = .ok (.iload 4, 2) := dz_21 (kBcJ0_init_db425_2 70 rfl rfl) (kBcJ0_init_db425_2 71 rfl rfl)
theorem dJ0_init_db425_72 : decode cJ0_init_db425 72 = .ok (.invokestatic 47, 3) := dz_184 (kBcJ0_init_db425_2 72 rfl rfl) (kBcJ0_init_db425_2 73 rfl rfl) (kBcJ0_init_db425_2 74 rfl rfl) rfl
theorem dJ0_init_db425_75 : decode cJ0_init_db425 75 = .ok (.putfield 15, 3) := dz_181 (kBcJ0_init_db425_2 75 rfl rfl) (kBcJ0_init_db425_2 76 rfl rfl) (kBcJ0_init_db425_2 77 rfl rfl) rfl
theorem dJ0_init_db425_78 : decode cJ0_init_db425 78 = .ok (.return_, 1) := dz_177 (kBcJ0_init_db425_2 78 rfl rfl)
theorem dJ0_init_db425_79 : decode cJ0_init_db425 79 = .ok (.aload_n 0, 1) := dz_42 (kBcJ0_init_db425_2 79 rfl rfl)
theorem dJ0_init_db425_80 : decode cJ0_init_db425 80 = .ok (.iconst 1, 1) := dz_4 (kBcJ0_init_db425_2 80 rfl rfl)
theorem dJ0_init_db425_81 : decode cJ0_init_db425 81 = .ok (.putfield 15, 3) := dz_181 (kBcJ0_init_db425_2 81 rfl rfl) (kBcJ0_init_db425_2 82 rfl rfl) (kBcJ0_init_db425_2 83 rfl rfl) rfl
theorem dJ0_init_db425_84 : decode cJ0_init_db425 84 = .ok (.aload_n 0, 1) := dz_42 (kBcJ0_init_db425_2 84 rfl rfl)
theorem dJ0_init_db425_85 : decode cJ0_init_db425 85 = .ok (.aload_n 3, 1) := dz_45 (kBcJ0_init_db425_2 85 rfl rfl)
theorem dJ0_init_db425_86 : decode cJ0_init_db425 86 = .ok (.iconst 0, 1) := dz_3 (kBcJ0_init_db425_2 86 rfl rfl)
theorem dJ0_init_db425_87 : decode cJ0_init_db425 87 = .ok (.iload 4, 2) := dz_21 (kBcJ0_init_db425_2 87 rfl rfl) (kBcJ0_init_db425_2 88 rfl rfl)
theorem dJ0_init_db425_89 : decode cJ0_init_db425 89 = .ok (.iconst 1, 1) := dz_4 (kBcJ0_init_db425_2 89 rfl rfl)
theorem dJ0_init_db425_90 : decode cJ0_init_db425 90 = .ok (.ishl, 1) := dz_120 (kBcJ0_init_db425_2 90 rfl rfl)
theorem dJ0_init_db425_91 : decode cJ0_init_db425 91 = .ok (.invokestatic 54, 3) := dz_184 (kBcJ0_init_db425_2 91 rfl rfl) (kBcJ0_init_db425_2 92 rfl rfl) (kBcJ0_init_db425_2 93 rfl rfl) rfl
theorem dJ0_init_db425_94 : decode cJ0_init_db425 94 = .ok (.putfield 9, 3) := dz_181 (kBcJ0_init_db425_2 94 rfl rfl) (kBcJ0_init_db425_2 95 rfl rfl) (kBcJ0_init_db425_3 96 rfl rfl) rfl
theorem dJ0_init_db425_97 : decode cJ0_init_db425 97 = .ok (.return_, 1) := dz_177 (kBcJ0_init_db425_3 97 rfl rfl)
def kCcJ0_coder_7d493_0 : List Nat := [178, 0, 38, 153, 0, 10, 42, 180, 0, 15, 167, 0, 4, 4, 172]
theorem kRcJ0_coder_7d493_eq : cJ0_coder_7d493.data.toList.map UInt8.toNat = kCcJ0_coder_7d493_0 := by decide +kernel
theorem dJ0_coder_7d493_0 : decode cJ0_coder_7d493 0 = .ok (.getstatic 38, 3) := dz_178 (kin0 (p := 0) kRcJ0_coder_7d493_eq rfl) (kin0 (p := 1) kRcJ0_coder_7d493_eq rfl) (kin0 (p := 2) kRcJ0_coder_7d493_eq rfl) rfl
theorem dJ0_coder_7d493_3 : decode cJ0_coder_7d493 3 = .ok (.ifCond .eq 10, 3) := dz_153 (kin0 (p := 3) kRcJ0_coder_7d493_eq rfl) (kin0 (p := 4) kRcJ0_coder_7d493_eq rfl) (kin0 (p := 5) kRcJ0_coder_7d493_eq rfl) rfl
theorem dJ0_coder_7d493_6 : decode cJ0_coder_7d493 6 = .ok (.aload_n 0, 1) := dz_42 (kin0 (p := 6) kRcJ0_coder_7d493_eq rfl)
theorem dJ0_coder_7d493_7 : decode cJ0_coder_7d493 7 = .ok (.getfield 15, 3) := dz_180 (kin0 (p := 7) kRcJ0_coder_7d493_eq rfl) (kin0 (p := 8) kRcJ0_coder_7d493_eq rfl) (kin0 (p := 9) kRcJ0_coder_7d493_eq rfl) rfl
theorem dJ0_coder_7d493_10 : decode cJ0_coder_7d493 10 = .ok (.goto 4, 3) := dz_167 (kin0 (p := 10) kRcJ0_coder_7d493_eq rfl) (kin0 (p := 11) kRcJ0_coder_7d493_eq rfl) (kin0 (p := 12) kRcJ0_coder_7d493_eq rfl) rfl
theorem dJ0_coder_7d493_13 : decode cJ0_coder_7d493 13 = .ok (.iconst 1, 1) := dz_4 (kin0 (p := 13) kRcJ0_coder_7d493_eq rfl)
theorem dJ0_coder_7d493_14 : decode cJ0_coder_7d493 14 = .ok (.ireturn, 1) := dz_172 (kin0 (p := 14) kRcJ0_coder_7d493_eq rfl)
def kCcJ0_isLatin1_aae02_0 : List Nat := [178, 0, 38, 153, 0, 14, 42, 180, 0, 15, 154, 0, 7, 4, 167, 0, 4, 3, 172]
theorem kRcJ0_isLatin1_aae02_eq : cJ0_isLatin1_aae02.data.toList.map UInt8.toNat = kCcJ0_isLatin1_aae02_0 := by decide +kernel
theorem dJ0_isLatin1_aae02_0 : decode cJ0_isLatin1_aae02 0 = .ok (.getstatic 38, 3) := dz_178 (kin0 (p := 0) kRcJ0_isLatin1_aae02_eq rfl) (kin0 (p := 1) kRcJ0_isLatin1_aae02_eq rfl) (kin0 (p := 2) kRcJ0_isLatin1_aae02_eq rfl) rfl
theorem dJ0_isLatin1_aae02_3 : decode cJ0_isLatin1_aae02 3 = .ok (.ifCond .eq 14, 3) := dz_153 (kin0 (p := 3) kRcJ0_isLatin1_aae02_eq rfl) (kin0 (p := 4) kRcJ0_isLatin1_aae02_eq rfl) (kin0 (p := 5) kRcJ0_isLatin1_aae02_eq rfl) rfl
theorem dJ0_isLatin1_aae02_6 : decode cJ0_isLatin1_aae02 6 = .ok (.aload_n 0, 1) := dz_42 (kin0 (p := 6) kRcJ0_isLatin1_aae02_eq rfl)
theorem dJ0_isLatin1_aae02_7 : decode cJ0_isLatin1_aae02 7 = .ok (.getfield 15, 3) := dz_180 (kin0 (p := 7) kRcJ0_isLatin1_aae02_eq rfl) (kin0 (p := 8) kRcJ0_isLatin1_aae02_eq rfl) (kin0 (p := 9) kRcJ0_isLatin1_aae02_eq rfl) rfl
theorem dJ0_isLatin1_aae02_10 : decode cJ0_isLatin1_aae02 10 = .ok (.ifCond .ne 7, 3) := dz_154 (kin0 (p := 10) kRcJ0_isLatin1_aae02_eq rfl) (kin0 (p := 11) kRcJ0_isLatin1_aae02_eq rfl) (kin0 (p := 12) kRcJ0_isLatin1_aae02_eq rfl) rfl
theorem dJ0_isLatin1_aae02_13 : decode cJ0_isLatin1_aae02 13 = .ok (.iconst 1, 1) := dz_4 (kin0 (p := 13) kRcJ0_isLatin1_aae02_eq rfl)
theorem dJ0_isLatin1_aae02_14 : decode cJ0_isLatin1_aae02 14 = .ok (.goto 4, 3) := dz_167 (kin0 (p := 14) kRcJ0_isLatin1_aae02_eq rfl) (kin0 (p := 15) kRcJ0_isLatin1_aae02_eq rfl) (kin0 (p := 16) kRcJ0_isLatin1_aae02_eq rfl) rfl
theorem dJ0_isLatin1_aae02_17 : decode cJ0_isLatin1_aae02 17 = .ok (.iconst 0, 1) := dz_3 (kin0 (p := 17) kRcJ0_isLatin1_aae02_eq rfl)
theorem dJ0_isLatin1_aae02_18 : decode cJ0_isLatin1_aae02 18 = .ok (.ireturn, 1) := dz_172 (kin0 (p := 18) kRcJ0_isLatin1_aae02_eq rfl)
def kCcJ0_checkIndex_df160_0 : List Nat := [26, 27, 178, 4, 29, 184, 4, 35, 87, 177]
theorem kRcJ0_checkIndex_df160_eq : cJ0_checkIndex_df160.data.toList.map UInt8.toNat = kCcJ0_checkIndex_df160_0 := by decide +kernel
theorem dJ0_checkIndex_df160_0 : decode cJ0_checkIndex_df160 0 = .ok (.iload_n 0, 1) := dz_26 (kin0 (p := 0) kRcJ0_checkIndex_df160_eq rfl)
theorem dJ0_checkIndex_df160_1 : decode cJ0_checkIndex_df160 1 = .ok (.iload_n 1, 1) := dz_27 (kin0 (p := 1) kRcJ0_checkIndex_df160_eq rfl)
theorem dJ0_checkIndex_df160_2 : decode cJ0_checkIndex_df160 2 = .ok (.getstatic 1053, 3) := dz_178 (kin0 (p := 2) kRcJ0_checkIndex_df160_eq rfl) (kin0 (p := 3) kRcJ0_checkIndex_df160_eq rfl) (kin0 (p := 4) kRcJ0_checkIndex_df160_eq rfl) rfl
theorem dJ0_checkIndex_df160_5 : decode cJ0_checkIndex_df160 5 = .ok (.invokestatic 1059, 3) := dz_184 (kin0 (p := 5) kRcJ0_checkIndex_df160_eq rfl) (kin0 (p := 6) kRcJ0_checkIndex_df160_eq rfl) (kin0 (p := 7) kRcJ0_checkIndex_df160_eq rfl) rfl
theorem dJ0_checkIndex_df160_8 : decode cJ0_checkIndex_df160 8 = .ok (.pop, 1) := dz_87 (kin0 (p := 8) kRcJ0_checkIndex_df160_eq rfl)
theorem dJ0_checkIndex_df160_9 : decode cJ0_checkIndex_df160 9 = .ok (.return_, 1) := dz_177 (kin0 (p := 9) kRcJ0_checkIndex_df160_eq rfl)
def kCcJ0_checkOffset_df160_0 : List Nat := [26, 27, 27, 178, 4, 29, 184, 4, 38, 87, 177]
theorem kRcJ0_checkOffset_df160_eq : cJ0_checkOffset_df160.data.toList.map UInt8.toNat = kCcJ0_checkOffset_df160_0 := by decide +kernel
theorem dJ0_checkOffset_df160_0 : decode cJ0_checkOffset_df160 0 = .ok (.iload_n 0, 1) := dz_26 (kin0 (p := 0) kRcJ0_checkOffset_df160_eq rfl)
theorem dJ0_checkOffset_df160_1 : decode cJ0_checkOffset_df160 1 = .ok (.iload_n 1, 1) := dz_27 (kin0 (p := 1) kRcJ0_checkOffset_df160_eq rfl)
theorem dJ0_checkOffset_df160_2 : decode cJ0_checkOffset_df160 2 = .ok (.iload_n 1, 1) := dz_27 (kin0 (p := 2) kRcJ0_checkOffset_df160_eq rfl)
theorem dJ0_checkOffset_df160_3 : decode cJ0_checkOffset_df160 3 = .ok (.getstatic 1053, 3) := dz_178 (kin0 (p := 3) kRcJ0_checkOffset_df160_eq rfl) (kin0 (p := 4) kRcJ0_checkOffset_df160_eq rfl) (kin0 (p := 5) kRcJ0_checkOffset_df160_eq rfl) rfl
theorem dJ0_checkOffset_df160_6 : decode cJ0_checkOffset_df160 6 = .ok (.invokestatic 1062, 3) := dz_184 (kin0 (p := 6) kRcJ0_checkOffset_df160_eq rfl) (kin0 (p := 7) kRcJ0_checkOffset_df160_eq rfl) (kin0 (p := 8) kRcJ0_checkOffset_df160_eq rfl) rfl
theorem dJ0_checkOffset_df160_9 : decode cJ0_checkOffset_df160 9 = .ok (.pop, 1) := dz_87 (kin0 (p := 9) kRcJ0_checkOffset_df160_eq rfl)
theorem dJ0_checkOffset_df160_10 : decode cJ0_checkOffset_df160 10 = .ok (.return_, 1) := dz_177 (kin0 (p := 10) kRcJ0_checkOffset_df160_eq rfl)
def kCcJ0_checkBoundsOffCount_cabcc_0 : List Nat := [26, 27, 28, 178, 4, 29, 184, 4, 41, 172]
theorem kRcJ0_checkBoundsOffCount_cabcc_eq : cJ0_checkBoundsOffCount_cabcc.data.toList.map UInt8.toNat = kCcJ0_checkBoundsOffCount_cabcc_0 := by decide +kernel
theorem dJ0_checkBoundsOffCount_cabcc_0 : decode cJ0_checkBoundsOffCount_cabcc 0 = .ok (.iload_n 0, 1) := dz_26 (kin0 (p := 0) kRcJ0_checkBoundsOffCount_cabcc_eq rfl)
theorem dJ0_checkBoundsOffCount_cabcc_1 : decode cJ0_checkBoundsOffCount_cabcc 1 = .ok (.iload_n 1, 1) := dz_27 (kin0 (p := 1) kRcJ0_checkBoundsOffCount_cabcc_eq rfl)
theorem dJ0_checkBoundsOffCount_cabcc_2 : decode cJ0_checkBoundsOffCount_cabcc 2 = .ok (.iload_n 2, 1) := dz_28 (kin0 (p := 2) kRcJ0_checkBoundsOffCount_cabcc_eq rfl)
theorem dJ0_checkBoundsOffCount_cabcc_3 : decode cJ0_checkBoundsOffCount_cabcc 3 = .ok (.getstatic 1053, 3) := dz_178 (kin0 (p := 3) kRcJ0_checkBoundsOffCount_cabcc_eq rfl) (kin0 (p := 4) kRcJ0_checkBoundsOffCount_cabcc_eq rfl) (kin0 (p := 5) kRcJ0_checkBoundsOffCount_cabcc_eq rfl) rfl
theorem dJ0_checkBoundsOffCount_cabcc_6 : decode cJ0_checkBoundsOffCount_cabcc 6 = .ok (.invokestatic 1065, 3) := dz_184 (kin0 (p := 6) kRcJ0_checkBoundsOffCount_cabcc_eq rfl) (kin0 (p := 7) kRcJ0_checkBoundsOffCount_cabcc_eq rfl) (kin0 (p := 8) kRcJ0_checkBoundsOffCount_cabcc_eq rfl) rfl
theorem dJ0_checkBoundsOffCount_cabcc_9 : decode cJ0_checkBoundsOffCount_cabcc 9 = .ok (.ireturn, 1) := dz_172 (kin0 (p := 9) kRcJ0_checkBoundsOffCount_cabcc_eq rfl)
def kCcJ0_checkBoundsBeginEnd_23922_0 : List Nat := [26, 27, 28, 178, 4, 29, 184, 4, 38, 87, 177]
theorem kRcJ0_checkBoundsBeginEnd_23922_eq : cJ0_checkBoundsBeginEnd_23922.data.toList.map UInt8.toNat = kCcJ0_checkBoundsBeginEnd_23922_0 := by decide +kernel
theorem dJ0_checkBoundsBeginEnd_23922_0 : decode cJ0_checkBoundsBeginEnd_23922 0 = .ok (.iload_n 0, 1) := dz_26 (kin0 (p := 0) kRcJ0_checkBoundsBeginEnd_23922_eq rfl)
theorem dJ0_checkBoundsBeginEnd_23922_1 : decode cJ0_checkBoundsBeginEnd_23922 1 = .ok (.iload_n 1, 1) := dz_27 (kin0 (p := 1) kRcJ0_checkBoundsBeginEnd_23922_eq rfl)
theorem dJ0_checkBoundsBeginEnd_23922_2 : decode cJ0_checkBoundsBeginEnd_23922 2 = .ok (.iload_n 2, 1) := dz_28 (kin0 (p := 2) kRcJ0_checkBoundsBeginEnd_23922_eq rfl)
theorem dJ0_checkBoundsBeginEnd_23922_3 : decode cJ0_checkBoundsBeginEnd_23922 3 = .ok (.getstatic 1053, 3) := dz_178 (kin0 (p := 3) kRcJ0_checkBoundsBeginEnd_23922_eq rfl) (kin0 (p := 4) kRcJ0_checkBoundsBeginEnd_23922_eq rfl) (kin0 (p := 5) kRcJ0_checkBoundsBeginEnd_23922_eq rfl) rfl
theorem dJ0_checkBoundsBeginEnd_23922_6 : decode cJ0_checkBoundsBeginEnd_23922 6 = .ok (.invokestatic 1062, 3) := dz_184 (kin0 (p := 6) kRcJ0_checkBoundsBeginEnd_23922_eq rfl) (kin0 (p := 7) kRcJ0_checkBoundsBeginEnd_23922_eq rfl) (kin0 (p := 8) kRcJ0_checkBoundsBeginEnd_23922_eq rfl) rfl
theorem dJ0_checkBoundsBeginEnd_23922_9 : decode cJ0_checkBoundsBeginEnd_23922 9 = .ok (.pop, 1) := dz_87 (kin0 (p := 9) kRcJ0_checkBoundsBeginEnd_23922_eq rfl)
theorem dJ0_checkBoundsBeginEnd_23922_10 : decode cJ0_checkBoundsBeginEnd_23922 10 = .ok (.return_, 1) := dz_177 (kin0 (p := 10) kRcJ0_checkBoundsBeginEnd_23922_eq rfl)
def kCcJ4_init_da8c8_0 : List Nat := [42, 16, 16, 183, 0, 1, 177]
theorem kRcJ4_init_da8c8_eq : cJ4_init_da8c8.data.toList.map UInt8.toNat = kCcJ4_init_da8c8_0 := by decide +kernel
theorem dJ4_init_da8c8_0 : decode cJ4_init_da8c8 0 = .ok (.aload_n 0, 1) := dz_42 (kin0 (p := 0) kRcJ4_init_da8c8_eq rfl)
theorem dJ4_init_da8c8_1 : decode cJ4_init_da8c8 1 = .ok (.bipush 16, 2) := dz_16 (kin0 (p := 1) kRcJ4_init_da8c8_eq rfl) (kin0 (p := 2) kRcJ4_init_da8c8_eq rfl) rfl
theorem dJ4_init_da8c8_3 : decode cJ4_init_da8c8 3 = .ok (.invokespecial 1, 3) := dz_183 (kin0 (p := 3) kRcJ4_init_da8c8_eq rfl) (kin0 (p := 4) kRcJ4_init_da8c8_eq rfl) (kin0 (p := 5) kRcJ4_init_da8c8_eq rfl) rfl
theorem dJ4_init_da8c8_6 : decode cJ4_init_da8c8 6 = .ok (.return_, 1) := dz_177 (kin0 (p := 6) kRcJ4_init_da8c8_eq rfl)
def kCcJ4_append_15ec4_0 : List Nat := [42, 43, 183, 0, 29, 87, 42, 176]
theorem kRcJ4_append_15ec4_eq : cJ4_append_15ec4.data.toList.map UInt8.toNat = kCcJ4_append_15ec4_0 := by decide +kernel
theorem dJ4_append_15ec4_0 : decode cJ4_append_15ec4 0 = .ok (.aload_n 0, 1) := dz_42 (kin0 (p := 0) kRcJ4_append_15ec4_eq rfl)
theorem dJ4_append_15ec4_1 : decode cJ4_append_15ec4 1 = .ok (.aload_n 1, 1) := dz_43 (kin0 (p := 1) kRcJ4_append_15ec4_eq rfl)
theorem dJ4_append_15ec4_2 : decode cJ4_append_15ec4 2 = .ok (.invokespecial 29, 3) := dz_183 (kin0 (p := 2) kRcJ4_append_15ec4_eq rfl) (kin0 (p := 3) kRcJ4_append_15ec4_eq rfl) (kin0 (p := 4) kRcJ4_append_15ec4_eq rfl) rfl
theorem dJ4_append_15ec4_5 : decode cJ4_append_15ec4 5 = .ok (.pop, 1) := dz_87 (kin0 (p := 5) kRcJ4_append_15ec4_eq rfl)
theorem dJ4_append_15ec4_6 : decode cJ4_append_15ec4 6 = .ok (.aload_n 0, 1) := dz_42 (kin0 (p := 6) kRcJ4_append_15ec4_eq rfl)
theorem dJ4_append_15ec4_7 : decode cJ4_append_15ec4 7 = .ok (.areturn, 1) := dz_176 (kin0 (p := 7) kRcJ4_append_15ec4_eq rfl)
def kCcJ4_append_cf468_0 : List Nat := [42, 27, 183, 0, 50, 87, 42, 176]
theorem kRcJ4_append_cf468_eq : cJ4_append_cf468.data.toList.map UInt8.toNat = kCcJ4_append_cf468_0 := by decide +kernel
theorem dJ4_append_cf468_0 : decode cJ4_append_cf468 0 = .ok (.aload_n 0, 1) := dz_42 (kin0 (p := 0) kRcJ4_append_cf468_eq rfl)
theorem dJ4_append_cf468_1 : decode cJ4_append_cf468 1 = .ok (.iload_n 1, 1) := dz_27 (kin0 (p := 1) kRcJ4_append_cf468_eq rfl)
theorem dJ4_append_cf468_2 : decode cJ4_append_cf468 2 = .ok (.invokespecial 50, 3) := dz_183 (kin0 (p := 2) kRcJ4_append_cf468_eq rfl) (kin0 (p := 3) kRcJ4_append_cf468_eq rfl) (kin0 (p := 4) kRcJ4_append_cf468_eq rfl) rfl
theorem dJ4_append_cf468_5 : decode cJ4_append_cf468 5 = .ok (.pop, 1) := dz_87 (kin0 (p := 5) kRcJ4_append_cf468_eq rfl)
theorem dJ4_append_cf468_6 : decode cJ4_append_cf468 6 = .ok (.aload_n 0, 1) := dz_42 (kin0 (p := 6) kRcJ4_append_cf468_eq rfl)
theorem dJ4_append_cf468_7 : decode cJ4_append_cf468 7 = .ok (.areturn, 1) := dz_176 (kin0 (p := 7) kRcJ4_append_cf468_eq rfl)
def kCcJ4_append_bf812_0 : List Nat := [42, 27, 183, 0, 53, 87, 42, 176]
theorem kRcJ4_append_bf812_eq : cJ4_append_bf812.data.toList.map UInt8.toNat = kCcJ4_append_bf812_0 := by decide +kernel
theorem dJ4_append_bf812_0 : decode cJ4_append_bf812 0 = .ok (.aload_n 0, 1) := dz_42 (kin0 (p := 0) kRcJ4_append_bf812_eq rfl)
theorem dJ4_append_bf812_1 : decode cJ4_append_bf812 1 = .ok (.iload_n 1, 1) := dz_27 (kin0 (p := 1) kRcJ4_append_bf812_eq rfl)
theorem dJ4_append_bf812_2 : decode cJ4_append_bf812 2 = .ok (.invokespecial 53, 3) := dz_183 (kin0 (p := 2) kRcJ4_append_bf812_eq rfl) (kin0 (p := 3) kRcJ4_append_bf812_eq rfl) (kin0 (p := 4) kRcJ4_append_bf812_eq rfl) rfl
theorem dJ4_append_bf812_5 : decode cJ4_append_bf812 5 = .ok (.pop, 1) := dz_87 (kin0 (p := 5) kRcJ4_append_bf812_eq rfl)
theorem dJ4_append_bf812_6 : decode cJ4_append_bf812 6 = .ok (.aload_n 0, 1) := dz_42 (kin0 (p := 6) kRcJ4_append_bf812_eq rfl)
theorem dJ4_append_bf812_7 : decode cJ4_append_bf812 7 = .ok (.areturn, 1) := dz_176 (kin0 (p := 7) kRcJ4_append_bf812_eq rfl)
def kCcJ4_append_f7089_0 : List Nat := [42, 31, 183, 0, 56, 87, 42, 176]
theorem kRcJ4_append_f7089_eq : cJ4_append_f7089.data.toList.map UInt8.toNat = kCcJ4_append_f7089_0 := by decide +kernel
theorem dJ4_append_f7089_0 : decode cJ4_append_f7089 0 = .ok (.aload_n 0, 1) := dz_42 (kin0 (p := 0) kRcJ4_append_f7089_eq rfl)
theorem dJ4_append_f7089_1 : decode cJ4_append_f7089 1 = .ok (.lload_n 1, 1) := dz_31 (kin0 (p := 1) kRcJ4_append_f7089_eq rfl)
theorem dJ4_append_f7089_2 : decode cJ4_append_f7089 2 = .ok (.invokespecial 56, 3) := dz_183 (kin0 (p := 2) kRcJ4_append_f7089_eq rfl) (kin0 (p := 3) kRcJ4_append_f7089_eq rfl) (kin0 (p := 4) kRcJ4_append_f7089_eq rfl) rfl
theorem dJ4_append_f7089_5 : decode cJ4_append_f7089 5 = .ok (.pop, 1) := dz_87 (kin0 (p := 5) kRcJ4_append_f7089_eq rfl)
theorem dJ4_append_f7089_6 : decode cJ4_append_f7089 6 = .ok (.aload_n 0, 1) := dz_42 (kin0 (p := 6) kRcJ4_append_f7089_eq rfl)
theorem dJ4_append_f7089_7 : decode cJ4_append_f7089 7 = .ok (.areturn, 1) := dz_176 (kin0 (p := 7) kRcJ4_append_f7089_eq rfl)
def kCcJ4_reverse_43fcb_0 : List Nat := [42, 183, 0, 127, 87, 42, 176]
theorem kRcJ4_reverse_43fcb_eq : cJ4_reverse_43fcb.data.toList.map UInt8.toNat = kCcJ4_reverse_43fcb_0 := by decide +kernel
theorem dJ4_reverse_43fcb_0 : decode cJ4_reverse_43fcb 0 = .ok (.aload_n 0, 1) := dz_42 (kin0 (p := 0) kRcJ4_reverse_43fcb_eq rfl)
theorem dJ4_reverse_43fcb_1 : decode cJ4_reverse_43fcb 1 = .ok (.invokespecial 127, 3) := dz_183 (kin0 (p := 1) kRcJ4_reverse_43fcb_eq rfl) (kin0 (p := 2) kRcJ4_reverse_43fcb_eq rfl) (kin0 (p := 3) kRcJ4_reverse_43fcb_eq rfl) rfl
theorem dJ4_reverse_43fcb_4 : decode cJ4_reverse_43fcb 4 = .ok (.pop, 1) := dz_87 (kin0 (p := 4) kRcJ4_reverse_43fcb_eq rfl)
theorem dJ4_reverse_43fcb_5 : decode cJ4_reverse_43fcb 5 = .ok (.aload_n 0, 1) := dz_42 (kin0 (p := 5) kRcJ4_reverse_43fcb_eq rfl)
theorem dJ4_reverse_43fcb_6 : decode cJ4_reverse_43fcb 6 = .ok (.areturn, 1) := dz_176 (kin0 (p := 6) kRcJ4_reverse_43fcb_eq rfl)
def kCcJ4_toString_0e30d_0 : List Nat := [187, 0, 18, 89, 42, 183, 0, 137, 176]
theorem kRcJ4_toString_0e30d_eq : cJ4_toString_0e30d.data.toList.map UInt8.toNat = kCcJ4_toString_0e30d_0 := by decide +kernel
theorem dJ4_toString_0e30d_0 : decode cJ4_toString_0e30d 0 = .ok (.new 18, 3) := dz_187 (kin0 (p := 0) kRcJ4_toString_0e30d_eq rfl) (kin0 (p := 1) kRcJ4_toString_0e30d_eq rfl) (kin0 (p := 2) kRcJ4_toString_0e30d_eq rfl) rfl
theorem dJ4_toString_0e30d_3 : decode cJ4_toString_0e30d 3 = .ok (.dup, 1) := dz_89 (kin0 (p := 3) kRcJ4_toString_0e30d_eq rfl)
theorem dJ4_toString_0e30d_4 : decode cJ4_toString_0e30d 4 = .ok (.aload_n 0, 1) := dz_42 (kin0 (p := 4) kRcJ4_toString_0e30d_eq rfl)
theorem dJ4_toString_0e30d_5 : decode cJ4_toString_0e30d 5 = .ok (.invokespecial 137, 3) := dz_183 (kin0 (p := 5) kRcJ4_toString_0e30d_eq rfl) (kin0 (p := 6) kRcJ4_toString_0e30d_eq rfl) (kin0 (p := 7) kRcJ4_toString_0e30d_eq rfl) rfl
theorem dJ4_toString_0e30d_8 : decode cJ4_toString_0e30d 8 = .ok (.areturn, 1) := dz_176 (kin0 (p := 8) kRcJ4_toString_0e30d_eq rfl)
def kCcJ4_charAt_5068e_0 : List Nat := [42, 27, 183, 1, 73, 172]
theorem kRcJ4_charAt_5068e_eq : cJ4_charAt_5068e.data.toList.map UInt8.toNat = kCcJ4_charAt_5068e_0 := by decide +kernel
theorem dJ4_charAt_5068e_0 : decode cJ4_charAt_5068e 0 = .ok (.aload_n 0, 1) := dz_42 (kin0 (p := 0) kRcJ4_charAt_5068e_eq rfl)
theorem dJ4_charAt_5068e_1 : decode cJ4_charAt_5068e 1 = .ok (.iload_n 1, 1) := dz_27 (kin0 (p := 1) kRcJ4_charAt_5068e_eq rfl)
theorem dJ4_charAt_5068e_2 : decode cJ4_charAt_5068e 2 = .ok (.invokespecial 329, 3) := dz_183 (kin0 (p := 2) kRcJ4_charAt_5068e_eq rfl) (kin0 (p := 3) kRcJ4_charAt_5068e_eq rfl) (kin0 (p := 4) kRcJ4_charAt_5068e_eq rfl) rfl
theorem dJ4_charAt_5068e_5 : decode cJ4_charAt_5068e 5 = .ok (.ireturn, 1) := dz_172 (kin0 (p := 5) kRcJ4_charAt_5068e_eq rfl)
def kCcJ4_setLength_d00df_0 : List Nat := [42, 27, 183, 1, 77, 177]
theorem kRcJ4_setLength_d00df_eq : cJ4_setLength_d00df.data.toList.map UInt8.toNat = kCcJ4_setLength_d00df_0 := by decide +kernel
theorem dJ4_setLength_d00df_0 : decode cJ4_setLength_d00df 0 = .ok (.aload_n 0, 1) := dz_42 (kin0 (p := 0) kRcJ4_setLength_d00df_eq rfl)
theorem dJ4_setLength_d00df_1 : decode cJ4_setLength_d00df 1 = .ok (.iload_n 1, 1) := dz_27 (kin0 (p := 1) kRcJ4_setLength_d00df_eq rfl)
theorem dJ4_setLength_d00df_2 : decode cJ4_setLength_d00df 2 = .ok (.invokespecial 333, 3) := dz_183 (kin0 (p := 2) kRcJ4_setLength_d00df_eq rfl) (kin0 (p := 3) kRcJ4_setLength_d00df_eq rfl) (kin0 (p := 4) kRcJ4_setLength_d00df_eq rfl) rfl
theorem dJ4_setLength_d00df_5 : decode cJ4_setLength_d00df 5 = .ok (.return_, 1) := dz_177 (kin0 (p := 5) kRcJ4_setLength_d00df_eq rfl)
def kCcJ4_length_8abf5_0 : List Nat := [42, 183, 1, 87, 172]
theorem kRcJ4_length_8abf5_eq : cJ4_length_8abf5.data.toList.map UInt8.toNat = kCcJ4_length_8abf5_0 := by decide +kernel
theorem dJ4_length_8abf5_0 : decode cJ4_length_8abf5 0 = .ok (.aload_n 0, 1) := dz_42 (kin0 (p := 0) kRcJ4_length_8abf5_eq rfl)
theorem dJ4_length_8abf5_1 : decode cJ4_length_8abf5 1 = .ok (.invokespecial 343, 3) := dz_183 (kin0 (p := 1) kRcJ4_length_8abf5_eq rfl) (kin0 (p := 2) kRcJ4_length_8abf5_eq rfl) (kin0 (p := 3) kRcJ4_length_8abf5_eq rfl) rfl
theorem dJ4_length_8abf5_4 : decode cJ4_length_8abf5 4 = .ok (.ireturn, 1) := dz_172 (kin0 (p := 4) kRcJ4_length_8abf5_eq rfl)
def kCcJx7c733_init_d00df_0 : List Nat := [42, 187, 0, 10, 89, 183, 0, 12, 18, 13, 182, 0, 15, 27, 182, 0, 19, 182, 0, 22, 183, 0, 7, 177]
theorem kRcJx7c733_init_d00df_eq : cJx7c733_init_d00df.data.toList.map UInt8.toNat = kCcJx7c733_init_d00df_0 := by decide +kernel
theorem dJx7c733_init_d00df_0 : decode cJx7c733_init_d00df 0 = .ok (.aload_n 0, 1) := dz_42 (kin0 (p := 0) kRcJx7c733_init_d00df_eq rfl)
theorem dJx7c733_init_d00df_1 : decode cJx7c733_init_d00df 1 = .ok (.new 10, 3) := dz_187 (kin0 (p := 1) kRcJx7c733_init_d00df_eq rfl) (kin0 (p := 2) kRcJx7c733_init_d00df_eq rfl) (kin0 (p := 3) kRcJx7c733_init_d00df_eq rfl) rfl
theorem dJx7c733_init_d00df_4 : decode cJx7c733_init_d00df 4 = .ok (.dup, 1) := dz_89 (kin0 (p := 4) kRcJx7c733_init_d00df_eq rfl)
theorem dJx7c733_init_d00df_5 : decode cJx7c733_init_d00df 5 = .ok (.invokespecial 12, 3) := dz_183 (kin0 (p := 5) kRcJx7c733_init_d00df_eq rfl) (kin0 (p := 6) kRcJx7c733_init_d00df_eq rfl) (kin0 (p := 7) kRcJx7c733_init_d00df_eq rfl) rfl
theorem dJx7c733_init_d00df_8 : decode cJx7c733_init_d00df 8 = .ok (.ldc 13, 2) := dz_18 (kin0 (p := 8) kRcJx7c733_init_d00df_eq rfl) (kin0 (p := 9) kRcJx7c733_init_d00df_eq rfl)
theorem dJx7c733_init_d00df_10 : decode cJx7c733_init_d00df 10 = .ok (.invokevirtual 15, 3) := dz_182 (kin0 (p := 10) kRcJx7c733_init_d00df_eq rfl) (kin0 (p := 11) kRcJx7c733_init_d00df_eq rfl) (kin0 (p := 12) kRcJx7c733_init_d00df_eq rfl) rfl
theorem dJx7c733_init_d00df_13 : decode cJx7c733_init_d00df 13 = .ok (.iload_n 1, 1) := dz_27 (kin0 (p := 13) kRcJx7c733_init_d00df_eq rfl)
theorem dJx7c733_init_d00df_14 : decode cJx7c733_init_d00df 14 = .ok (.invokevirtual 19, 3) := dz_182 (kin0 (p := 14) kRcJx7c733_init_d00df_eq rfl) (kin0 (p := 15) kRcJx7c733_init_d00df_eq rfl) (kin0 (p := 16) kRcJx7c733_init_d00df_eq rfl) rfl
theorem dJx7c733_init_d00df_17 : decode cJx7c733_init_d00df 17 = .ok (.invokevirtual 22, 3) := dz_182 (kin0 (p := 17) kRcJx7c733_init_d00df_eq rfl) (kin0 (p := 18) kRcJx7c733_init_d00df_eq rfl) (kin0 (p := 19) kRcJx7c733_init_d00df_eq rfl) rfl
theorem dJx7c733_init_d00df_20 : decode cJx7c733_init_d00df 20 = .ok (.invokespecial 7, 3) := dz_183 (kin0 (p := 20) kRcJx7c733_init_d00df_eq rfl) (kin0 (p := 21) kRcJx7c733_init_d00df_eq rfl) (kin0 (p := 22) kRcJx7c733_init_d00df_eq rfl) rfl
theorem dJx7c733_init_d00df_23 : decode cJx7c733_init_d00df 23 = .ok (.return_, 1) := dz_177 (kin0 (p := 23) kRcJx7c733_init_d00df_eq rfl)
def kCcJ1_charAt_3b067_0 : List Nat := [27, 42, 190, 184, 0, 9, 42, 27, 51, 17, 0, 255, 126, 146, 172]
theorem kRcJ1_charAt_3b067_eq : cJ1_charAt_3b067.data.toList.map UInt8.toNat = kCcJ1_charAt_3b067_0 := by decide +kernel
theorem dJ1_charAt_3b067_0 : decode cJ1_charAt_3b067 0 = .ok (.iload_n 1, 1) := dz_27 (kin0 (p := 0) kRcJ1_charAt_3b067_eq rfl)
theorem dJ1_charAt_3b067_1 : decode cJ1_charAt_3b067 1 = .ok (.aload_n 0, 1) := dz_42 (kin0 (p := 1) kRcJ1_charAt_3b067_eq rfl)
theorem dJ1_charAt_3b067_2 : decode cJ1_charAt_3b067 2 = .ok (.arraylength, 1) := dz_190 (kin0 (p := 2) kRcJ1_charAt_3b067_eq rfl)
theorem dJ1_charAt_3b067_3 : decode cJ1_charAt_3b067 3 = .ok (.invokestatic 9, 3) := dz_184 (kin0 (p := 3) kRcJ1_charAt_3b067_eq rfl) (kin0 (p := 4) kRcJ1_charAt_3b067_eq rfl) (kin0 (p := 5) kRcJ1_charAt_3b067_eq rfl) rfl
theorem dJ1_charAt_3b067_6 : decode cJ1_charAt_3b067 6 = .ok (.aload_n 0, 1) := dz_42 (kin0 (p := 6) kRcJ1_charAt_3b067_eq rfl)
theorem dJ1_charAt_3b067_7 : decode cJ1_charAt_3b067 7 = .ok (.iload_n 1, 1) := dz_27 (kin0 (p := 7) kRcJ1_charAt_3b067_eq rfl)
theorem dJ1_charAt_3b067_8 : decode cJ1_charAt_3b067 8 = .ok (.baload, 1) := dz_51 (kin0 (p := 8) kRcJ1_charAt_3b067_eq rfl)
theorem dJ1_charAt_3b067_9 : decode cJ1_charAt_3b067 9 = .ok (.sipush 255, 3) := dz_17 (kin0 (p := 9) kRcJ1_charAt_3b067_eq rfl) (kin0 (p := 10) kRcJ1_charAt_3b067_eq rfl) (kin0 (p := 11) kRcJ1_charAt_3b067_eq rfl) rfl
theorem dJ1_charAt_3b067_12 : decode cJ1_charAt_3b067 12 = .ok (.iand, 1) := dz_126 (kin0 (p := 12) kRcJ1_charAt_3b067_eq rfl)
theorem dJ1_charAt_3b067_13 : decode cJ1_charAt_3b067 13 = .ok (.i2c, 1) := dz_146 (kin0 (p := 13) kRcJ1_charAt_3b067_eq rfl)
theorem dJ1_charAt_3b067_14 : decode cJ1_charAt_3b067 14 = .ok (.ireturn, 1) := dz_172 (kin0 (p := 14) kRcJ1_charAt_3b067_eq rfl)
def kCcJ1_canEncode_fc78d_0 : List Nat := [26, 17, 0, 255, 163, 0, 7, 4, 167, 0, 4, 3, 172]
theorem kRcJ1_canEncode_fc78d_eq : cJ1_canEncode_fc78d.data.toList.map UInt8.toNat = kCcJ1_canEncode_fc78d_0 := by decide +kernel
theorem dJ1_canEncode_fc78d_0 : decode cJ1_canEncode_fc78d 0 = .ok (.iload_n 0, 1) := dz_26 (kin0 (p := 0) kRcJ1_canEncode_fc78d_eq rfl)
theorem dJ1_canEncode_fc78d_1 : decode cJ1_canEncode_fc78d 1 = .ok (.sipush 255, 3) := dz_17 (kin0 (p := 1) kRcJ1_canEncode_fc78d_eq rfl) (kin0 (p := 2) kRcJ1_canEncode_fc78d_eq rfl) (kin0 (p := 3) kRcJ1_canEncode_fc78d_eq rfl) rfl
theorem dJ1_canEncode_fc78d_4 : decode cJ1_canEncode_fc78d 4 = .ok (.if_icmp .gt 7, 3) := dz_163 (kin0 (p := 4) kRcJ1_canEncode_fc78d_eq rfl) (kin0 (p := 5) kRcJ1_canEncode_fc78d_eq rfl) (kin0 (p := 6) kRcJ1_canEncode_fc78d_eq rfl) rfl
theorem dJ1_canEncode_fc78d_7 : decode cJ1_canEncode_fc78d 7 = .ok (.iconst 1, 1) := dz_4 (kin0 (p := 7) kRcJ1_canEncode_fc78d_eq rfl)
theorem dJ1_canEncode_fc78d_8 : decode cJ1_canEncode_fc78d 8 = .ok (.goto 4, 3) := dz_167 (kin0 (p := 8) kRcJ1_canEncode_fc78d_eq rfl) (kin0 (p := 9) kRcJ1_canEncode_fc78d_eq rfl) (kin0 (p := 10) kRcJ1_canEncode_fc78d_eq rfl) rfl
theorem dJ1_canEncode_fc78d_11 : decode cJ1_canEncode_fc78d 11 = .ok (.iconst 0, 1) := dz_3 (kin0 (p := 11) kRcJ1_canEncode_fc78d_eq rfl)
theorem dJ1_canEncode_fc78d_12 : decode cJ1_canEncode_fc78d 12 = .ok (.ireturn, 1) := dz_172 (kin0 (p := 12) kRcJ1_canEncode_fc78d_eq rfl)
def kCcJ1_equals_b5fdf_0 : List Nat := [42, 190, 43, 190, 160, 0, 30, 3, 61, 28, 42, 190, 162, 0, 20, 42, 28, 51, 43, 28, 51, 159, 0, 5, 3, 172, 132, 2, 1, 167, 255, 236]
def kCcJ1_equals_b5fdf_1 : List Nat := [4, 172, 3, 172]
def kRcJ1_equals_b5fdf_2 : List Nat := []
def kRcJ1_equals_b5fdf_1 : List Nat := kCcJ1_equals_b5fdf_1 ++ kRcJ1_equals_b5fdf_2
def kRcJ1_equals_b5fdf_0 : List Nat := kCcJ1_equals_b5fdf_0 ++ kRcJ1_equals_b5fdf_1
theorem kRcJ1_equals_b5fdf_eq : cJ1_equals_b5fdf.data.toList.map UInt8.toNat = kRcJ1_equals_b5fdf_0 := by decide +kernel
theorem katcJ1_equals_b5fdf_0 (i : Nat) : (cJ1_equals_b5fdf.data.toList.map UInt8.toNat)[0 + i]? = kRcJ1_equals_b5fdf_0[i]? := by rw [kRcJ1_equals_b5fdf_eq, Nat.zero_add]
theorem katcJ1_equals_b5fdf_1 : ∀ i : Nat, (cJ1_equals_b5fdf.data.toList.map UInt8.toNat)[32 + i]? = kRcJ1_equals_b5fdf_1[i]? := kstep katcJ1_equals_b5fdf_0 (C := kCcJ1_equals_b5fdf_0) rfl rfl
theorem kBcJ1_equals_b5fdf_0 {b : Nat} (p : Nat) (hp : Nat.ble 0 p = true) (h : kCcJ1_equals_b5fdf_0[p - 0]? = some b) : kb cJ1_equals_b5fdf p b := kin katcJ1_equals_b5fdf_0 rfl hp h
theorem kBcJ1_equals_b5fdf_1 {b : Nat} (p : Nat) (hp : Nat.ble 32 p = true) (h : kCcJ1_equals_b5fdf_1[p - 32]? = some b) : kb cJ1_equals_b5fdf p b := kin katcJ1_equals_b5fdf_1 rfl hp h
theorem dJ1_equals_b5fdf_0 : decode cJ1_equals_b5fdf 0 = .ok (.aload_n 0, 1) := dz_42 (kBcJ1_equals_b5fdf_0 0 rfl rfl)
theorem dJ1_equals_b5fdf_1 : decode cJ1_equals_b5fdf 1 = .ok (.arraylength, 1) := dz_190 (kBcJ1_equals_b5fdf_0 1 rfl rfl)
theorem dJ1_equals_b5fdf_2 : decode cJ1_equals_b5fdf 2 = .ok (.aload_n 1, 1) := dz_43 (kBcJ1_equals_b5fdf_0 2 rfl rfl)
theorem dJ1_equals_b5fdf_3 : decode cJ1_equals_b5fdf 3 = .ok (.arraylength, 1) := dz_190 (kBcJ1_equals_b5fdf_0 3 rfl rfl)
theorem dJ1_equals_b5fdf_4 : decode cJ1_equals_b5fdf 4 = .ok (.if_icmp .ne 30, 3) := dz_160 (kBcJ1_equals_b5fdf_0 4 rfl rfl) (kBcJ1_equals_b5fdf_0 5 rfl rfl) (kBcJ1_equals_b5fdf_0 6 rfl rfl) rfl
theorem dJ1_equals_b5fdf_7 : decode cJ1_equals_b5fdf 7 = .ok (.iconst 0, 1) := dz_3 (kBcJ1_equals_b5fdf_0 7 rfl rfl)
theorem dJ1_equals_b5fdf_8 : decode cJ1_equals_b5fdf 8 = .ok (.istore_n 2, 1) := dz_61 (kBcJ1_equals_b5fdf_0 8 rfl rfl)
theorem dJ1_equals_b5fdf_9 : decode cJ1_equals_b5fdf 9 = .ok (.iload_n 2, 1) := dz_28 (kBcJ1_equals_b5fdf_0 9 rfl rfl)
theorem dJ1_equals_b5fdf_10 : decode cJ1_equals_b5fdf 10 = .ok (.aload_n 0, 1) := dz_42 (kBcJ1_equals_b5fdf_0 10 rfl rfl)
theorem dJ1_equals_b5fdf_11 : decode cJ1_equals_b5fdf 11 = .ok (.arraylength, 1) := dz_190 (kBcJ1_equals_b5fdf_0 11 rfl rfl)
theorem dJ1_equals_b5fdf_12 : decode cJ1_equals_b5fdf 12 = .ok (.if_icmp .ge 20, 3) := dz_162 (kBcJ1_equals_b5fdf_0 12 rfl rfl) (kBcJ1_equals_b5fdf_0 13 rfl rfl) (kBcJ1_equals_b5fdf_0 14 rfl rfl) rfl
theorem dJ1_equals_b5fdf_15 : decode cJ1_equals_b5fdf 15 = .ok (.aload_n 0, 1) := dz_42 (kBcJ1_equals_b5fdf_0 15 rfl rfl)
theorem dJ1_equals_b5fdf_16 : decode cJ1_equals_b5fdf 16 = .ok (.iload_n 2, 1) := dz_28 (kBcJ1_equals_b5fdf_0 16 rfl rfl)
theorem dJ1_equals_b5fdf_17 : decode cJ1_equals_b5fdf 17 = .ok (.baload, 1) := dz_51 (kBcJ1_equals_b5fdf_0 17 rfl rfl)
theorem dJ1_equals_b5fdf_18 : decode cJ1_equals_b5fdf 18 = .ok (.aload_n 1, 1) := dz_43 (kBcJ1_equals_b5fdf_0 18 rfl rfl)
theorem dJ1_equals_b5fdf_19 : decode cJ1_equals_b5fdf 19 = .ok (.iload_n 2, 1) := dz_28 (kBcJ1_equals_b5fdf_0 19 rfl rfl)
theorem dJ1_equals_b5fdf_20 : decode cJ1_equals_b5fdf 20 = .ok (.baload, 1) := dz_51 (kBcJ1_equals_b5fdf_0 20 rfl rfl)
theorem dJ1_equals_b5fdf_21 : decode cJ1_equals_b5fdf 21 = .ok (.if_icmp .eq 5, 3) := dz_159 (kBcJ1_equals_b5fdf_0 21 rfl rfl) (kBcJ1_equals_b5fdf_0 22 rfl rfl) (kBcJ1_equals_b5fdf_0 23 rfl rfl) rfl
theorem dJ1_equals_b5fdf_24 : decode cJ1_equals_b5fdf 24 = .ok (.iconst 0, 1) := dz_3 (kBcJ1_equals_b5fdf_0 24 rfl rfl)
theorem dJ1_equals_b5fdf_25 : decode cJ1_equals_b5fdf 25 = .ok (.ireturn, 1) := dz_172 (kBcJ1_equals_b5fdf_0 25 rfl rfl)
theorem dJ1_equals_b5fdf_26 : decode cJ1_equals_b5fdf 26 = .ok (.iinc 2 1, 3) := dz_132 (kBcJ1_equals_b5fdf_0 26 rfl rfl) (kBcJ1_equals_b5fdf_0 27 rfl rfl) (kBcJ1_equals_b5fdf_0 28 rfl rfl) rfl
theorem dJ1_equals_b5fdf_29 : decode cJ1_equals_b5fdf 29 = .ok (.goto (-20), 3) := dz_167 (kBcJ1_equals_b5fdf_0 29 rfl rfl) (kBcJ1_equals_b5fdf_0 30 rfl rfl) (kBcJ1_equals_b5fdf_0 31 rfl rfl) rfl
theorem dJ1_equals_b5fdf_32 : decode cJ1_equals_b5fdf 32 = .ok (.iconst 1, 1) := dz_4 (kBcJ1_equals_b5fdf_1 32 rfl rfl)
theorem dJ1_equals_b5fdf_33 : decode cJ1_equals_b5fdf 33 = .ok (.ireturn, 1) := dz_172 (kBcJ1_equals_b5fdf_1 33 rfl rfl)
theorem dJ1_equals_b5fdf_34 : decode cJ1_equals_b5fdf 34 = .ok (.iconst 0, 1) := dz_3 (kBcJ1_equals_b5fdf_1 34 rfl rfl)
theorem dJ1_equals_b5fdf_35 : decode cJ1_equals_b5fdf 35 = .ok (.ireturn, 1) := dz_172 (kBcJ1_equals_b5fdf_1 35 rfl rfl)
def kCcJ1_fillNull_b72d1_0 : List Nat := [42, 27, 28, 3, 184, 0, 236, 177]
theorem kRcJ1_fillNull_b72d1_eq : cJ1_fillNull_b72d1.data.toList.map UInt8.toNat = kCcJ1_fillNull_b72d1_0 := by decide +kernel
theorem dJ1_fillNull_b72d1_0 : decode cJ1_fillNull_b72d1 0 = .ok (.aload_n 0, 1) := dz_42 (kin0 (p := 0) kRcJ1_fillNull_b72d1_eq rfl)
theorem dJ1_fillNull_b72d1_1 : decode cJ1_fillNull_b72d1 1 = .ok (.iload_n 1, 1) := dz_27 (kin0 (p := 1) kRcJ1_fillNull_b72d1_eq rfl)
theorem dJ1_fillNull_b72d1_2 : decode cJ1_fillNull_b72d1 2 = .ok (.iload_n 2, 1) := dz_28 (kin0 (p := 2) kRcJ1_fillNull_b72d1_eq rfl)
theorem dJ1_fillNull_b72d1_3 : decode cJ1_fillNull_b72d1 3 = .ok (.iconst 0, 1) := dz_3 (kin0 (p := 3) kRcJ1_fillNull_b72d1_eq rfl)
theorem dJ1_fillNull_b72d1_4 : decode cJ1_fillNull_b72d1 4 = .ok (.invokestatic 236, 3) := dz_184 (kin0 (p := 4) kRcJ1_fillNull_b72d1_eq rfl) (kin0 (p := 5) kRcJ1_fillNull_b72d1_eq rfl) (kin0 (p := 6) kRcJ1_fillNull_b72d1_eq rfl) rfl
theorem dJ1_fillNull_b72d1_7 : decode cJ1_fillNull_b72d1 7 = .ok (.return_, 1) := dz_177 (kin0 (p := 7) kRcJ1_fillNull_b72d1_eq rfl)
def kCcJ1_inflate_0e8fd_0 : List Nat := [42, 27, 44, 29, 21, 4, 184, 0, 240, 177]
theorem kRcJ1_inflate_0e8fd_eq : cJ1_inflate_0e8fd.data.toList.map UInt8.toNat = kCcJ1_inflate_0e8fd_0 := by decide +kernel
theorem dJ1_inflate_0e8fd_0 : decode cJ1_inflate_0e8fd 0 = .ok (.aload_n 0, 1) := dz_42 (kin0 (p := 0) kRcJ1_inflate_0e8fd_eq rfl)
theorem dJ1_inflate_0e8fd_1 : decode cJ1_inflate_0e8fd 1 = .ok (.iload_n 1, 1) := dz_27 (kin0 (p := 1) kRcJ1_inflate_0e8fd_eq rfl)
theorem dJ1_inflate_0e8fd_2 : decode cJ1_inflate_0e8fd 2 = .ok (.aload_n 2, 1) := dz_44 (kin0 (p := 2) kRcJ1_inflate_0e8fd_eq rfl)
theorem dJ1_inflate_0e8fd_3 : decode cJ1_inflate_0e8fd 3 = .ok (.iload_n 3, 1) := dz_29 (kin0 (p := 3) kRcJ1_inflate_0e8fd_eq rfl)
theorem dJ1_inflate_0e8fd_4 : decode cJ1_inflate_0e8fd 4 = .ok (.iload 4, 2) := dz_21 (kin0 (p := 4) kRcJ1_inflate_0e8fd_eq rfl) (kin0 (p := 5) kRcJ1_inflate_0e8fd_eq rfl)
theorem dJ1_inflate_0e8fd_6 : decode cJ1_inflate_0e8fd 6 = .ok (.invokestatic 240, 3) := dz_184 (kin0 (p := 6) kRcJ1_inflate_0e8fd_eq rfl) (kin0 (p := 7) kRcJ1_inflate_0e8fd_eq rfl) (kin0 (p := 8) kRcJ1_inflate_0e8fd_eq rfl) rfl
theorem dJ1_inflate_0e8fd_9 : decode cJ1_inflate_0e8fd 9 = .ok (.return_, 1) := dz_177 (kin0 (p := 9) kRcJ1_inflate_0e8fd_eq rfl)
def kCcJ7_rangeCheck_23922_0 : List Nat := [27, 28, 164, 0, 44, 187, 0, 43, 89, 187, 0, 45, 89, 183, 0, 47, 18, 48, 182, 0, 50, 27, 182, 0, 54, 18, 57, 182, 0, 50, 28, 182]
def kCcJ7_rangeCheck_23922_1 : List Nat := [0, 54, 18, 59, 182, 0, 50, 182, 0, 61, 183, 0, 65, 191, 27, 156, 0, 12, 187, 0, 68, 89, 27, 183, 0, 70, 191, 28, 26, 164, 0, 12]
def kCcJ7_rangeCheck_23922_2 : List Nat := [187, 0, 68, 89, 28, 183, 0, 70, 191, 177]
def kRcJ7_rangeCheck_23922_3 : List Nat := []
def kRcJ7_rangeCheck_23922_2 : List Nat := kCcJ7_rangeCheck_23922_2 ++ kRcJ7_rangeCheck_23922_3
def kRcJ7_rangeCheck_23922_1 : List Nat := kCcJ7_rangeCheck_23922_1 ++ kRcJ7_rangeCheck_23922_2
def kRcJ7_rangeCheck_23922_0 : List Nat := kCcJ7_rangeCheck_23922_0 ++ kRcJ7_rangeCheck_23922_1
theorem kRcJ7_rangeCheck_23922_eq : cJ7_rangeCheck_23922.data.toList.map UInt8.toNat = kRcJ7_rangeCheck_23922_0 := by decide +kernel
theorem katcJ7_rangeCheck_23922_0 (i : Nat) : (cJ7_rangeCheck_23922.data.toList.map UInt8.toNat)[0 + i]? = kRcJ7_rangeCheck_23922_0[i]? := by rw [kRcJ7_rangeCheck_23922_eq, Nat.zero_add]
theorem katcJ7_rangeCheck_23922_1 : ∀ i : Nat, (cJ7_rangeCheck_23922.data.toList.map UInt8.toNat)[32 + i]? = kRcJ7_rangeCheck_23922_1[i]? := kstep katcJ7_rangeCheck_23922_0 (C := kCcJ7_rangeCheck_23922_0) rfl rfl
theorem katcJ7_rangeCheck_23922_2 : ∀ i : Nat, (cJ7_rangeCheck_23922.data.toList.map UInt8.toNat)[64 + i]? = kRcJ7_rangeCheck_23922_2[i]? := kstep katcJ7_rangeCheck_23922_1 (C := kCcJ7_rangeCheck_23922_1) rfl rfl
theorem kBcJ7_rangeCheck_23922_0 {b : Nat} (p : Nat) (hp : Nat.ble 0 p = true) (h : kCcJ7_rangeCheck_23922_0[p - 0]? = some b) : kb cJ7_rangeCheck_23922 p b := kin katcJ7_rangeCheck_23922_0 rfl hp h
theorem kBcJ7_rangeCheck_23922_1 {b : Nat} (p : Nat) (hp : Nat.ble 32 p = true) (h : kCcJ7_rangeCheck_23922_1[p - 32]? = some b) : kb cJ7_rangeCheck_23922 p b := kin katcJ7_rangeCheck_23922_1 rfl hp h
theorem kBcJ7_rangeCheck_23922_2 {b : Nat} (p : Nat) (hp : Nat.ble 64 p = true) (h : kCcJ7_rangeCheck_23922_2[p - 64]? = some b) : kb cJ7_rangeCheck_23922 p b := kin katcJ7_rangeCheck_23922_2 rfl hp h
theorem dJ7_rangeCheck_23922_0 : decode cJ7_rangeCheck_23922 0 = .ok (.iload_n 1, 1) := dz_27 (kBcJ7_rangeCheck_23922_0 0 rfl rfl)
theorem dJ7_rangeCheck_23922_1 : decode cJ7_rangeCheck_23922 1 = .ok (.iload_n 2, 1) := dz_28 (kBcJ7_rangeCheck_23922_0 1 rfl rfl)
theorem dJ7_rangeCheck_23922_2 : decode cJ7_rangeCheck_23922 2 = .ok (.if_icmp .le 44, 3) := dz_164 (kBcJ7_rangeCheck_23922_0 2 rfl rfl) (kBcJ7_rangeCheck_23922_0 3 rfl rfl) (kBcJ7_rangeCheck_23922_0 4 rfl rfl) rfl
theorem dJ7_rangeCheck_23922_5 : decode cJ7_rangeCheck_23922 5 = .ok (.new 43, 3) := dz_187 (kBcJ7_rangeCheck_23922_0 5 rfl rfl) (kBcJ7_rangeCheck_23922_0 6 rfl rfl) (kBcJ7_rangeCheck_23922_0 7 rfl rfl) rfl
theorem dJ7_rangeCheck_23922_8 : decode cJ7_rangeCheck_23922 8 = .ok (.dup, 1) := dz_89 (kBcJ7_rangeCheck_23922_0 8 rfl rfl)
theorem dJ7_rangeCheck_23922_9 : decode cJ7_rangeCheck_23922 9 = .ok (.new 45, 3) := dz_187 (kBcJ7_rangeCheck_23922_0 9 rfl rfl) (kBcJ7_rangeCheck_23922_0 10 rfl rfl) (kBcJ7_rangeCheck_23922_0 11 rfl rfl) rfl
theorem dJ7_rangeCheck_23922_12 : decode cJ7_rangeCheck_23922 12 = .ok (.dup, 1) := dz_89 (kBcJ7_rangeCheck_23922_0 12 rfl rfl)
theorem dJ7_rangeCheck_23922_13 : decode cJ7_rangeCheck_23922 13 = .ok (.invokespecial 47, 3) := dz_183 (kBcJ7_rangeCheck_23922_0 13 rfl rfl) (kBcJ7_rangeCheck_23922_0 14 rfl rfl) (kBcJ7_rangeCheck_23922_0 15 rfl rfl) rfl
theorem dJ7_rangeCheck_23922_16 : decode cJ7_rangeCheck_23922 16 = .ok (.ldc 48, 2) := dz_18 (kBcJ7_rangeCheck_23922_0 16 rfl rfl) (kBcJ7_rangeCheck_23922_0 17 rfl rfl)
theorem dJ7_rangeCheck_23922_18 : decode cJ7_rangeCheck_23922 18 = .ok (.invokevirtual 50, 3) := dz_182 (kBcJ7_rangeCheck_23922_0 18 rfl rfl) (kBcJ7_rangeCheck_23922_0 19 rfl rfl) (kBcJ7_rangeCheck_23922_0 20 rfl rfl) rfl
theorem dJ7_rangeCheck_23922_21 : decode cJ7_rangeCheck_23922 21 = .ok (.iload_n 1, 1) := dz_27 (kBcJ7_rangeCheck_23922_0 21 rfl rfl)
theorem dJ7_rangeCheck_23922_22 : decode cJ7_rangeCheck_23922 22 = .ok (.invokevirtual 54, 3) := dz_182 (kBcJ7_rangeCheck_23922_0 22 rfl rfl) (kBcJ7_rangeCheck_23922_0 23 rfl rfl) (kBcJ7_rangeCheck_23922_0 24 rfl rfl) rfl
theorem dJ7_rangeCheck_23922_25 : decode cJ7_rangeCheck_23922 25 = .ok (.ldc 57, 2) := dz_18 (kBcJ7_rangeCheck_23922_0 25 rfl rfl) (kBcJ7_rangeCheck_23922_0 26 rfl rfl)
theorem dJ7_rangeCheck_23922_27 : decode cJ7_rangeCheck_23922 27 = .ok (.invokevirtual 50, 3) := dz_182 (kBcJ7_rangeCheck_23922_0 27 rfl rfl) (kBcJ7_rangeCheck_23922_0 28 rfl rfl) (kBcJ7_rangeCheck_23922_0 29 rfl rfl) rfl
theorem dJ7_rangeCheck_23922_30 : decode cJ7_rangeCheck_23922 30 = .ok (.iload_n 2, 1) := dz_28 (kBcJ7_rangeCheck_23922_0 30 rfl rfl)
theorem dJ7_rangeCheck_23922_31 : decode cJ7_rangeCheck_23922 31 = .ok (.invokevirtual 54, 3) := dz_182 (kBcJ7_rangeCheck_23922_0 31 rfl rfl) (kBcJ7_rangeCheck_23922_1 32 rfl rfl) (kBcJ7_rangeCheck_23922_1 33 rfl rfl) rfl
theorem dJ7_rangeCheck_23922_34 : decode cJ7_rangeCheck_23922 34 = .ok (.ldc 59, 2) := dz_18 (kBcJ7_rangeCheck_23922_1 34 rfl rfl) (kBcJ7_rangeCheck_23922_1 35 rfl rfl)
theorem dJ7_rangeCheck_23922_36 : decode cJ7_rangeCheck_23922 36 = .ok (.invokevirtual 50, 3) := dz_182 (kBcJ7_rangeCheck_23922_1 36 rfl rfl) (kBcJ7_rangeCheck_23922_1 37 rfl rfl) (kBcJ7_rangeCheck_23922_1 38 rfl rfl) rfl
theorem dJ7_rangeCheck_23922_39 : decode cJ7_rangeCheck_23922 39 = .ok (.invokevirtual 61, 3) := dz_182 (kBcJ7_rangeCheck_23922_1 39 rfl rfl) (kBcJ7_rangeCheck_23922_1 40 rfl rfl) (kBcJ7_rangeCheck_23922_1 41 rfl rfl) rfl
theorem dJ7_rangeCheck_23922_42 : decode cJ7_rangeCheck_23922 42 = .ok (.invokespecial 65, 3) := dz_183 (kBcJ7_rangeCheck_23922_1 42 rfl rfl) (kBcJ7_rangeCheck_23922_1 43 rfl rfl) (kBcJ7_rangeCheck_23922_1 44 rfl rfl) rfl
theorem dJ7_rangeCheck_23922_45 : decode cJ7_rangeCheck_23922 45 = .ok (.athrow, 1) := dz_191 (kBcJ7_rangeCheck_23922_1 45 rfl rfl)
theorem dJ7_rangeCheck_23922_46 : decode cJ7_rangeCheck_23922 46 = .ok (.iload_n 1, 1) := dz_27 (kBcJ7_rangeCheck_23922_1 46 rfl rfl)
theorem dJ7_rangeCheck_23922_47 : decode cJ7_rangeCheck_23922 47 = .ok (.ifCond .ge 12, 3) := dz_156 (kBcJ7_rangeCheck_23922_1 47 rfl rfl) (kBcJ7_rangeCheck_23922_1 48 rfl rfl) (kBcJ7_rangeCheck_23922_1 49 rfl rfl) rfl
theorem dJ7_rangeCheck_23922_50 : decode cJ7_rangeCheck_23922 50 = .ok (.new 68, 3) := dz_187 (kBcJ7_rangeCheck_23922_1 50 rfl rfl) (kBcJ7_rangeCheck_23922_1 51 rfl rfl) (kBcJ7_rangeCheck_23922_1 52 rfl rfl) rfl
theorem dJ7_rangeCheck_23922_53 : decode cJ7_rangeCheck_23922 53 = .ok (.dup, 1) := dz_89 (kBcJ7_rangeCheck_23922_1 53 rfl rfl)
theorem dJ7_rangeCheck_23922_54 : decode cJ7_rangeCheck_23922 54 = .ok (.iload_n 1, 1) := dz_27 (kBcJ7_rangeCheck_23922_1 54 rfl rfl)
theorem dJ7_rangeCheck_23922_55 : decode cJ7_rangeCheck_23922 55 = .ok (.invokespecial 70, 3) := dz_183 (kBcJ7_rangeCheck_23922_1 55 rfl rfl) (kBcJ7_rangeCheck_23922_1 56 rfl rfl) (kBcJ7_rangeCheck_23922_1 57 rfl rfl) rfl
theorem dJ7_rangeCheck_23922_58 : decode cJ7_rangeCheck_23922 58 = .ok (.athrow, 1) := dz_191 (kBcJ7_rangeCheck_23922_1 58 rfl rfl)
theorem dJ7_rangeCheck_23922_59 : decode cJ7_rangeCheck_23922 59 = .ok (.iload_n 2, 1) := dz_28 (kBcJ7_rangeCheck_23922_1 59 rfl rfl)
theorem dJ7_rangeCheck_23922_60 : decode cJ7_rangeCheck_23922 60 = .ok (.iload_n 0, 1) := dz_26 (kBcJ7_rangeCheck_23922_1 60 rfl rfl)
theorem dJ7_rangeCheck_23922_61 : decode cJ7_rangeCheck_23922 61 = .ok (.if_icmp .le 12, 3) := dz_164 (kBcJ7_rangeCheck_23922_1 61 rfl rfl) (kBcJ7_rangeCheck_23922_1 62 rfl rfl) (kBcJ7_rangeCheck_23922_1 63 rfl rfl) rfl
theorem dJ7_rangeCheck_23922_64 : decode cJ7_rangeCheck_23922 64 = .ok (.new 68, 3) := dz_187 (kBcJ7_rangeCheck_23922_2 64 rfl rfl) (kBcJ7_rangeCheck_23922_2 65 rfl rfl) (kBcJ7_rangeCheck_23922_2 66 rfl rfl) rfl
theorem dJ7_rangeCheck_23922_67 : decode cJ7_rangeCheck_23922 67 = .ok (.dup, 1) := dz_89 (kBcJ7_rangeCheck_23922_2 67 rfl rfl)
theorem dJ7_rangeCheck_23922_68 : decode cJ7_rangeCheck_23922 68 = .ok (.iload_n 2, 1) := dz_28 (kBcJ7_rangeCheck_23922_2 68 rfl rfl)
theorem dJ7_rangeCheck_23922_69 : decode cJ7_rangeCheck_23922 69 = .ok (.invokespecial 70, 3) := dz_183 (kBcJ7_rangeCheck_23922_2 69 rfl rfl) (kBcJ7_rangeCheck_23922_2 70 rfl rfl) (kBcJ7_rangeCheck_23922_2 71 rfl rfl) rfl
theorem dJ7_rangeCheck_23922_72 : decode cJ7_rangeCheck_23922 72 = .ok (.athrow, 1) := dz_191 (kBcJ7_rangeCheck_23922_2 72 rfl rfl)
theorem dJ7_rangeCheck_23922_73 : decode cJ7_rangeCheck_23922 73 = .ok (.return_, 1) := dz_177 (kBcJ7_rangeCheck_23922_2 73 rfl rfl)
def kCcJ7_fill_eb02e_0 : List Nat := [42, 190, 27, 28, 184, 0, 13, 27, 54, 4, 21, 4, 28, 162, 0, 14, 42, 21, 4, 29, 84, 132, 4, 1, 167, 255, 242, 177]
theorem kRcJ7_fill_eb02e_eq : cJ7_fill_eb02e.data.toList.map UInt8.toNat = kCcJ7_fill_eb02e_0 := by decide +kernel
theorem dJ7_fill_eb02e_0 : decode cJ7_fill_eb02e 0 = .ok (.aload_n 0, 1) := dz_42 (kin0 (p := 0) kRcJ7_fill_eb02e_eq rfl)
theorem dJ7_fill_eb02e_1 : decode cJ7_fill_eb02e 1 = .ok (.arraylength, 1) := dz_190 (kin0 (p := 1) kRcJ7_fill_eb02e_eq rfl)
theorem dJ7_fill_eb02e_2 : decode cJ7_fill_eb02e 2 = .ok (.iload_n 1, 1) := dz_27 (kin0 (p := 2) kRcJ7_fill_eb02e_eq rfl)
theorem dJ7_fill_eb02e_3 : decode cJ7_fill_eb02e 3 = .ok (.iload_n 2, 1) := dz_28 (kin0 (p := 3) kRcJ7_fill_eb02e_eq rfl)
theorem dJ7_fill_eb02e_4 : decode cJ7_fill_eb02e 4 = .ok (.invokestatic 13, 3) := dz_184 (kin0 (p := 4) kRcJ7_fill_eb02e_eq rfl) (kin0 (p := 5) kRcJ7_fill_eb02e_eq rfl) (kin0 (p := 6) kRcJ7_fill_eb02e_eq rfl) rfl
theorem dJ7_fill_eb02e_7 : decode cJ7_fill_eb02e 7 = .ok (.iload_n 1, 1) := dz_27 (kin0 (p := 7) kRcJ7_fill_eb02e_eq rfl)
theorem dJ7_fill_eb02e_8 : decode cJ7_fill_eb02e 8 = .ok (.istore 4, 2) := dz_54 (kin0 (p := 8) kRcJ7_fill_eb02e_eq rfl) (kin0 (p := 9) kRcJ7_fill_eb02e_eq rfl)
theorem dJ7_fill_eb02e_10 : decode cJ7_fill_eb02e 10 = .ok (.iload 4, 2) := dz_21 (kin0 (p := 10) kRcJ7_fill_eb02e_eq rfl) (kin0 (p := 11) kRcJ7_fill_eb02e_eq rfl)
theorem dJ7_fill_eb02e_12 : decode cJ7_fill_eb02e 12 = .ok (.iload_n 2, 1) := dz_28 (kin0 (p := 12) kRcJ7_fill_eb02e_eq rfl)
theorem dJ7_fill_eb02e_13 : decode cJ7_fill_eb02e 13 = .ok (.if_icmp .ge 14, 3) := dz_162 (kin0 (p := 13) kRcJ7_fill_eb02e_eq rfl) (kin0 (p := 14) kRcJ7_fill_eb02e_eq rfl) (kin0 (p := 15) kRcJ7_fill_eb02e_eq rfl) rfl
theorem dJ7_fill_eb02e_16 : decode cJ7_fill_eb02e 16 = .ok (.aload_n 0, 1) := dz_42 (kin0 (p := 16) kRcJ7_fill_eb02e_eq rfl)
theorem dJ7_fill_eb02e_17 : decode cJ7_fill_eb02e 17 = .ok (.iload 4, 2) := dz_21 (kin0 (p := 17) kRcJ7_fill_eb02e_eq rfl) (kin0 (p := 18) kRcJ7_fill_eb02e_eq rfl)
theorem dJ7_fill_eb02e_19 : decode cJ7_fill_eb02e 19 = .ok (.iload_n 3, 1) := dz_29 (kin0 (p := 19) kRcJ7_fill_eb02e_eq rfl)
theorem dJ7_fill_eb02e_20 : decode cJ7_fill_eb02e 20 = .ok (.bastore, 1) := dz_84 (kin0 (p := 20) kRcJ7_fill_eb02e_eq rfl)
theorem dJ7_fill_eb02e_21 : decode cJ7_fill_eb02e 21 = .ok (.iinc 4 1, 3) := dz_132 (kin0 (p := 21) kRcJ7_fill_eb02e_eq rfl) (kin0 (p := 22) kRcJ7_fill_eb02e_eq rfl) (kin0 (p := 23) kRcJ7_fill_eb02e_eq rfl) rfl
theorem dJ7_fill_eb02e_24 : decode cJ7_fill_eb02e 24 = .ok (.goto (-14), 3) := dz_167 (kin0 (p := 24) kRcJ7_fill_eb02e_eq rfl) (kin0 (p := 25) kRcJ7_fill_eb02e_eq rfl) (kin0 (p := 26) kRcJ7_fill_eb02e_eq rfl) rfl
theorem dJ7_fill_eb02e_27 : decode cJ7_fill_eb02e 27 = .ok (.return_, 1) := dz_177 (kin0 (p := 27) kRcJ7_fill_eb02e_eq rfl)
def kCcJ7_copyOf_9075b_0 : List Nat := [27, 42, 190, 160, 0, 11, 42, 182, 1, 54, 192, 1, 55, 176, 27, 188, 8, 77, 42, 3, 44, 3, 42, 190, 27, 184, 1, 48, 184, 0, 150, 44]
def kCcJ7_copyOf_9075b_1 : List Nat := [176]
def kRcJ7_copyOf_9075b_2 : List Nat := []
def kRcJ7_copyOf_9075b_1 : List Nat := kCcJ7_copyOf_9075b_1 ++ kRcJ7_copyOf_9075b_2
def kRcJ7_copyOf_9075b_0 : List Nat := kCcJ7_copyOf_9075b_0 ++ kRcJ7_copyOf_9075b_1
theorem kRcJ7_copyOf_9075b_eq : cJ7_copyOf_9075b.data.toList.map UInt8.toNat = kRcJ7_copyOf_9075b_0 := by decide +kernel
theorem katcJ7_copyOf_9075b_0 (i : Nat) : (cJ7_copyOf_9075b.data.toList.map UInt8.toNat)[0 + i]? = kRcJ7_copyOf_9075b_0[i]? := by rw [kRcJ7_copyOf_9075b_eq, Nat.zero_add]
theorem katcJ7_copyOf_9075b_1 : ∀ i : Nat, (cJ7_copyOf_9075b.data.toList.map UInt8.toNat)[32 + i]? = kRcJ7_copyOf_9075b_1[i]? := kstep katcJ7_copyOf_9075b_0 (C := kCcJ7_copyOf_9075b_0) rfl rfl
theorem kBcJ7_copyOf_9075b_0 {b : Nat} (p : Nat) (hp : Nat.ble 0 p = true) (h : kCcJ7_copyOf_9075b_0[p - 0]? = some b) : kb cJ7_copyOf_9075b p b := kin katcJ7_copyOf_9075b_0 rfl hp h
theorem kBcJ7_copyOf_9075b_1 {b : Nat} (p : Nat) (hp : Nat.ble 32 p = true) (h : kCcJ7_copyOf_9075b_1[p - 32]? = some b) : kb cJ7_copyOf_9075b p b := kin katcJ7_copyOf_9075b_1 rfl hp h
theorem dJ7_copyOf_9075b_0 : decode cJ7_copyOf_9075b 0 = .ok (.iload_n 1, 1) := dz_27 (kBcJ7_copyOf_9075b_0 0 rfl rfl)
theorem dJ7_copyOf_9075b_1 : decode cJ7_copyOf_9075b 1 = .ok (.aload_n 0, 1) := dz_42 (kBcJ7_copyOf_9075b_0 1 rfl rfl)
theorem dJ7_copyOf_9075b_2 : decode cJ7_copyOf_9075b 2 = .ok (.arraylength, 1) := dz_190 (kBcJ7_copyOf_9075b_0 2 rfl rfl)
theorem dJ7_copyOf_9075b_3 : decode cJ7_copyOf_9075b 3 = .ok (.if_icmp .ne 11, 3) := dz_160 (kBcJ7_copyOf_9075b_0 3 rfl rfl) (kBcJ7_copyOf_9075b_0 4 rfl rfl) (kBcJ7_copyOf_9075b_0 5 rfl rfl) rfl
theorem dJ7_copyOf_9075b_6 : decode cJ7_copyOf_9075b 6 = .ok (.aload_n 0, 1) := dz_42 (kBcJ7_copyOf_9075b_0 6 rfl rfl)
theorem dJ7_copyOf_9075b_7 : decode cJ7_copyOf_9075b 7 = .ok (.invokevirtual 310, 3) := dz_182 (kBcJ7_copyOf_9075b_0 7 rfl rfl) (kBcJ7_copyOf_9075b_0 8 rfl rfl) (kBcJ7_copyOf_9075b_0 9 rfl rfl) rfl
theorem dJ7_copyOf_9075b_10 : decode cJ7_copyOf_9075b 10 = .ok (.checkcast 311, 3) := dz_192 (kBcJ7_copyOf_9075b_0 10 rfl rfl) (kBcJ7_copyOf_9075b_0 11 rfl rfl) (kBcJ7_copyOf_9075b_0 12 rfl rfl) rfl
theorem dJ7_copyOf_9075b_13 : decode cJ7_copyOf_9075b 13 = .ok (.areturn, 1) := dz_176 (kBcJ7_copyOf_9075b_0 13 rfl rfl)
theorem dJ7_copyOf_9075b_14 : decode cJ7_copyOf_9075b 14 = .ok (.iload_n 1, 1) := dz_27 (kBcJ7_copyOf_9075b_0 14 rfl rfl)
theorem dJ7_copyOf_9075b_15 : decode cJ7_copyOf_9075b 15 = .ok (.newarray .byte, 2) := by decide +kernel
theorem dJ7_copyOf_9075b_17 : decode cJ7_copyOf_9075b 17 = .ok (.astore_n 2, 1) := dz_77 (kBcJ7_copyOf_9075b_0 17 rfl rfl)
theorem dJ7_copyOf_9075b_18 : decode cJ7_copyOf_9075b 18 = .ok (.aload_n 0, 1) := dz_42 (kBcJ7_copyOf_9075b_0 18 rfl rfl)
theorem dJ7_copyOf_9075b_19 : decode cJ7_copyOf_9075b 19 = .ok (.iconst 0, 1) := dz_3 (kBcJ7_copyOf_9075b_0 19 rfl rfl)
theorem dJ7_copyOf_9075b_20 : decode cJ7_copyOf_9075b 20 = .ok (.aload_n 2, 1) := dz_44 (kBcJ7_copyOf_9075b_0 20 rfl rfl)
theorem dJ7_copyOf_9075b_21 : decode cJ7_copyOf_9075b 21 = .ok (.iconst 0, 1) := dz_3 (kBcJ7_copyOf_9075b_0 21 rfl rfl)
theorem dJ7_copyOf_9075b_22 : decode cJ7_copyOf_9075b 22 = .ok (.aload_n 0, 1) := dz_42 (kBcJ7_copyOf_9075b_0 22 rfl rfl)
theorem dJ7_copyOf_9075b_23 : decode cJ7_copyOf_9075b 23 = .ok (.arraylength, 1) := dz_190 (kBcJ7_copyOf_9075b_0 23 rfl rfl)
theorem dJ7_copyOf_9075b_24 : decode cJ7_copyOf_9075b 24 = .ok (.iload_n 1, 1) := dz_27 (kBcJ7_copyOf_9075b_0 24 rfl rfl)
theorem dJ7_copyOf_9075b_25 : decode cJ7_copyOf_9075b 25 = .ok (.invokestatic 304, 3) := dz_184 (kBcJ7_copyOf_9075b_0 25 rfl rfl) (kBcJ7_copyOf_9075b_0 26 rfl rfl) (kBcJ7_copyOf_9075b_0 27 rfl rfl) rfl
theorem dJ7_copyOf_9075b_28 : decode cJ7_copyOf_9075b 28 = .ok (.invokestatic 150, 3) := dz_184 (kBcJ7_copyOf_9075b_0 28 rfl rfl) (kBcJ7_copyOf_9075b_0 29 rfl rfl) (kBcJ7_copyOf_9075b_0 30 rfl rfl) rfl
theorem dJ7_copyOf_9075b_31 : decode cJ7_copyOf_9075b 31 = .ok (.aload_n 2, 1) := dz_44 (kBcJ7_copyOf_9075b_0 31 rfl rfl)
theorem dJ7_copyOf_9075b_32 : decode cJ7_copyOf_9075b 32 = .ok (.areturn, 1) := dz_176 (kBcJ7_copyOf_9075b_1 32 rfl rfl)
def kCcJ7_checkLength_df160_0 : List Nat := [27, 26, 162, 0, 35, 187, 0, 43, 89, 187, 0, 45, 89, 183, 0, 47, 26, 182, 0, 54, 19, 1, 81, 182, 0, 50, 27, 182, 0, 54, 182, 0]
def kCcJ7_checkLength_df160_1 : List Nat := [61, 183, 0, 65, 191, 177]
def kRcJ7_checkLength_df160_2 : List Nat := []
def kRcJ7_checkLength_df160_1 : List Nat := kCcJ7_checkLength_df160_1 ++ kRcJ7_checkLength_df160_2
def kRcJ7_checkLength_df160_0 : List Nat := kCcJ7_checkLength_df160_0 ++ kRcJ7_checkLength_df160_1
theorem kRcJ7_checkLength_df160_eq : cJ7_checkLength_df160.data.toList.map UInt8.toNat = kRcJ7_checkLength_df160_0 := by decide +kernel
theorem katcJ7_checkLength_df160_0 (i : Nat) : (cJ7_checkLength_df160.data.toList.map UInt8.toNat)[0 + i]? = kRcJ7_checkLength_df160_0[i]? := by rw [kRcJ7_checkLength_df160_eq, Nat.zero_add]
theorem katcJ7_checkLength_df160_1 : ∀ i : Nat, (cJ7_checkLength_df160.data.toList.map UInt8.toNat)[32 + i]? = kRcJ7_checkLength_df160_1[i]? := kstep katcJ7_checkLength_df160_0 (C := kCcJ7_checkLength_df160_0) rfl rfl
theorem kBcJ7_checkLength_df160_0 {b : Nat} (p : Nat) (hp : Nat.ble 0 p = true) (h : kCcJ7_checkLength_df160_0[p - 0]? = some b) : kb cJ7_checkLength_df160 p b := kin katcJ7_checkLength_df160_0 rfl hp h
theorem kBcJ7_checkLength_df160_1 {b : Nat} (p : Nat) (hp : Nat.ble 32 p = true) (h : kCcJ7_checkLength_df160_1[p - 32]? = some b) : kb cJ7_checkLength_df160 p b := kin katcJ7_checkLength_df160_1 rfl hp h
theorem dJ7_checkLength_df160_0 : decode cJ7_checkLength_df160 0 = .ok (.iload_n 1, 1) := dz_27 (kBcJ7_checkLength_df160_0 0 rfl rfl)
theorem dJ7_checkLength_df160_1 : decode cJ7_checkLength_df160 1 = .ok (.iload_n 0, 1) := dz_26 (kBcJ7_checkLength_df160_0 1 rfl rfl)
theorem dJ7_checkLength_df160_2 : decode cJ7_checkLength_df160 2 = .ok (.if_icmp .ge 35, 3) := dz_162 (kBcJ7_checkLength_df160_0 2 rfl rfl) (kBcJ7_checkLength_df160_0 3 rfl rfl) (kBcJ7_checkLength_df160_0 4 rfl rfl) rfl
theorem dJ7_checkLength_df160_5 : decode cJ7_checkLength_df160 5 = .ok (.new 43, 3) := dz_187 (kBcJ7_checkLength_df160_0 5 rfl rfl) (kBcJ7_checkLength_df160_0 6 rfl rfl) (kBcJ7_checkLength_df160_0 7 rfl rfl) rfl
theorem dJ7_checkLength_df160_8 : decode cJ7_checkLength_df160 8 = .ok (.dup, 1) := dz_89 (kBcJ7_checkLength_df160_0 8 rfl rfl)
theorem dJ7_checkLength_df160_9 : decode cJ7_checkLength_df160 9 = .ok (.new 45, 3) := dz_187 (kBcJ7_checkLength_df160_0 9 rfl rfl) (kBcJ7_checkLength_df160_0 10 rfl rfl) (kBcJ7_checkLength_df160_0 11 rfl rfl) rfl
theorem dJ7_checkLength_df160_12 : decode cJ7_checkLength_df160 12 = .ok (.dup, 1) := dz_89 (kBcJ7_checkLength_df160_0 12 rfl rfl)
theorem dJ7_checkLength_df160_13 : decode cJ7_checkLength_df160 13 = .ok (.invokespecial 47, 3) := dz_183 (kBcJ7_checkLength_df160_0 13 rfl rfl) (kBcJ7_checkLength_df160_0 14 rfl rfl) (kBcJ7_checkLength_df160_0 15 rfl rfl) rfl
theorem dJ7_checkLength_df160_16 : decode cJ7_checkLength_df160 16 = .ok (.iload_n 0, 1) := dz_26 (kBcJ7_checkLength_df160_0 16 rfl rfl)
theorem dJ7_checkLength_df160_17 : decode cJ7_checkLength_df160 17 = .ok (.invokevirtual 54, 3) := dz_182 (kBcJ7_checkLength_df160_0 17 rfl rfl) (kBcJ7_checkLength_df160_0 18 rfl rfl) (kBcJ7_checkLength_df160_0 19 rfl rfl) rfl
theorem dJ7_checkLength_df160_20 : decode cJ7_checkLength_df160 20 = .ok (.ldc_w 337, 3) := dz_19 (kBcJ7_checkLength_df160_0 20 rfl rfl) (kBcJ7_checkLength_df160_0 21 rfl rfl) (kBcJ7_checkLength_df160_0 22 rfl rfl) rfl
theorem dJ7_checkLength_df160_23 : decode cJ7_checkLength_df160 23 = .ok (.invokevirtual 50, 3) := dz_182 (kBcJ7_checkLength_df160_0 23 rfl rfl) (kBcJ7_checkLength_df160_0 24 rfl rfl) (kBcJ7_checkLength_df160_0 25 rfl rfl) rfl
theorem dJ7_checkLength_df160_26 : decode cJ7_checkLength_df160 26 = .ok (.iload_n 1, 1) := dz_27 (kBcJ7_checkLength_df160_0 26 rfl rfl)
theorem dJ7_checkLength_df160_27 : decode cJ7_checkLength_df160 27 = .ok (.invokevirtual 54, 3) := dz_182 (kBcJ7_checkLength_df160_0 27 rfl rfl) (kBcJ7_checkLength_df160_0 28 rfl rfl) (kBcJ7_checkLength_df160_0 29 rfl rfl) rfl
theorem dJ7_checkLength_df160_30 : decode cJ7_checkLength_df160 30 = .ok (.invokevirtual 61, 3) := dz_182 (kBcJ7_checkLength_df160_0 30 rfl rfl) (kBcJ7_checkLength_df160_0 31 rfl rfl) (kBcJ7_checkLength_df160_1 32 rfl rfl) rfl
theorem dJ7_checkLength_df160_33 : decode cJ7_checkLength_df160 33 = .ok (.invokespecial 65, 3) := dz_183 (kBcJ7_checkLength_df160_1 33 rfl rfl) (kBcJ7_checkLength_df160_1 34 rfl rfl) (kBcJ7_checkLength_df160_1 35 rfl rfl) rfl
theorem dJ7_checkLength_df160_36 : decode cJ7_checkLength_df160 36 = .ok (.athrow, 1) := dz_191 (kBcJ7_checkLength_df160_1 36 rfl rfl)
theorem dJ7_checkLength_df160_37 : decode cJ7_checkLength_df160 37 = .ok (.return_, 1) := dz_177 (kBcJ7_checkLength_df160_1 37 rfl rfl)
def kCcJ7_copyOfRange_39247_0 : List Nat := [27, 154, 0, 9, 28, 42, 190, 159, 0, 10, 42, 27, 28, 184, 1, 83, 176, 42, 182, 1, 54, 192, 1, 55, 176]
theorem kRcJ7_copyOfRange_39247_eq : cJ7_copyOfRange_39247.data.toList.map UInt8.toNat = kCcJ7_copyOfRange_39247_0 := by decide +kernel
theorem dJ7_copyOfRange_39247_0 : decode cJ7_copyOfRange_39247 0 = .ok (.iload_n 1, 1) := dz_27 (kin0 (p := 0) kRcJ7_copyOfRange_39247_eq rfl)
theorem dJ7_copyOfRange_39247_1 : decode cJ7_copyOfRange_39247 1 = .ok (.ifCond .ne 9, 3) := dz_154 (kin0 (p := 1) kRcJ7_copyOfRange_39247_eq rfl) (kin0 (p := 2) kRcJ7_copyOfRange_39247_eq rfl) (kin0 (p := 3) kRcJ7_copyOfRange_39247_eq rfl) rfl
theorem dJ7_copyOfRange_39247_4 : decode cJ7_copyOfRange_39247 4 = .ok (.iload_n 2, 1) := dz_28 (kin0 (p := 4) kRcJ7_copyOfRange_39247_eq rfl)
theorem dJ7_copyOfRange_39247_5 : decode cJ7_copyOfRange_39247 5 = .ok (.aload_n 0, 1) := dz_42 (kin0 (p := 5) kRcJ7_copyOfRange_39247_eq rfl)
theorem dJ7_copyOfRange_39247_6 : decode cJ7_copyOfRange_39247 6 = .ok (.arraylength, 1) := dz_190 (kin0 (p := 6) kRcJ7_copyOfRange_39247_eq rfl)
theorem dJ7_copyOfRange_39247_7 : decode cJ7_copyOfRange_39247 7 = .ok (.if_icmp .eq 10, 3) := dz_159 (kin0 (p := 7) kRcJ7_copyOfRange_39247_eq rfl) (kin0 (p := 8) kRcJ7_copyOfRange_39247_eq rfl) (kin0 (p := 9) kRcJ7_copyOfRange_39247_eq rfl) rfl
theorem dJ7_copyOfRange_39247_10 : decode cJ7_copyOfRange_39247 10 = .ok (.aload_n 0, 1) := dz_42 (kin0 (p := 10) kRcJ7_copyOfRange_39247_eq rfl)
theorem dJ7_copyOfRange_39247_11 : decode cJ7_copyOfRange_39247 11 = .ok (.iload_n 1, 1) := dz_27 (kin0 (p := 11) kRcJ7_copyOfRange_39247_eq rfl)
theorem dJ7_copyOfRange_39247_12 : decode cJ7_copyOfRange_39247 12 = .ok (.iload_n 2, 1) := dz_28 (kin0 (p := 12) kRcJ7_copyOfRange_39247_eq rfl)
theorem dJ7_copyOfRange_39247_13 : decode cJ7_copyOfRange_39247 13 = .ok (.invokestatic 339, 3) := dz_184 (kin0 (p := 13) kRcJ7_copyOfRange_39247_eq rfl) (kin0 (p := 14) kRcJ7_copyOfRange_39247_eq rfl) (kin0 (p := 15) kRcJ7_copyOfRange_39247_eq rfl) rfl
theorem dJ7_copyOfRange_39247_16 : decode cJ7_copyOfRange_39247 16 = .ok (.areturn, 1) := dz_176 (kin0 (p := 16) kRcJ7_copyOfRange_39247_eq rfl)
theorem dJ7_copyOfRange_39247_17 : decode cJ7_copyOfRange_39247 17 = .ok (.aload_n 0, 1) := dz_42 (kin0 (p := 17) kRcJ7_copyOfRange_39247_eq rfl)
theorem dJ7_copyOfRange_39247_18 : decode cJ7_copyOfRange_39247 18 = .ok (.invokevirtual 310, 3) := dz_182 (kin0 (p := 18) kRcJ7_copyOfRange_39247_eq rfl) (kin0 (p := 19) kRcJ7_copyOfRange_39247_eq rfl) (kin0 (p := 20) kRcJ7_copyOfRange_39247_eq rfl) rfl
theorem dJ7_copyOfRange_39247_21 : decode cJ7_copyOfRange_39247 21 = .ok (.checkcast 311, 3) := dz_192 (kin0 (p := 21) kRcJ7_copyOfRange_39247_eq rfl) (kin0 (p := 22) kRcJ7_copyOfRange_39247_eq rfl) (kin0 (p := 23) kRcJ7_copyOfRange_39247_eq rfl) rfl
theorem dJ7_copyOfRange_39247_24 : decode cJ7_copyOfRange_39247 24 = .ok (.areturn, 1) := dz_176 (kin0 (p := 24) kRcJ7_copyOfRange_39247_eq rfl)
def kCcJ7_copyOfRangeByte_39247_0 : List Nat := [27, 28, 184, 1, 87, 28, 27, 100, 62, 29, 188, 8, 58, 4, 42, 27, 25, 4, 3, 42, 190, 27, 100, 29, 184, 1, 48, 184, 0, 150, 25, 4]
def kCcJ7_copyOfRangeByte_39247_1 : List Nat := [176]
def kRcJ7_copyOfRangeByte_39247_2 : List Nat := []
def kRcJ7_copyOfRangeByte_39247_1 : List Nat := kCcJ7_copyOfRangeByte_39247_1 ++ kRcJ7_copyOfRangeByte_39247_2
def kRcJ7_copyOfRangeByte_39247_0 : List Nat := kCcJ7_copyOfRangeByte_39247_0 ++ kRcJ7_copyOfRangeByte_39247_1
theorem kRcJ7_copyOfRangeByte_39247_eq : cJ7_copyOfRangeByte_39247.data.toList.map UInt8.toNat = kRcJ7_copyOfRangeByte_39247_0 := by decide +kernel
theorem katcJ7_copyOfRangeByte_39247_0 (i : Nat) : (cJ7_copyOfRangeByte_39247.data.toList.map UInt8.toNat)[0 + i]? = kRcJ7_copyOfRangeByte_39247_0[i]? := by rw [kRcJ7_copyOfRangeByte_39247_eq, Nat.zero_add]
theorem katcJ7_copyOfRangeByte_39247_1 : ∀ i : Nat, (cJ7_copyOfRangeByte_39247.data.toList.map UInt8.toNat)[32 + i]? = kRcJ7_copyOfRangeByte_39247_1[i]? := kstep katcJ7_copyOfRangeByte_39247_0 (C := kCcJ7_copyOfRangeByte_39247_0) rfl rfl
theorem kBcJ7_copyOfRangeByte_39247_0 {b : Nat} (p : Nat) (hp : Nat.ble 0 p = true) (h : kCcJ7_copyOfRangeByte_39247_0[p - 0]? = some b) : kb cJ7_copyOfRangeByte_39247 p b := kin katcJ7_copyOfRangeByte_39247_0 rfl hp h
theorem kBcJ7_copyOfRangeByte_39247_1 {b : Nat} (p : Nat) (hp : Nat.ble 32 p = true) (h : kCcJ7_copyOfRangeByte_39247_1[p - 32]? = some b) : kb cJ7_copyOfRangeByte_39247 p b := kin katcJ7_copyOfRangeByte_39247_1 rfl hp h
theorem dJ7_copyOfRangeByte_39247_0 : decode cJ7_copyOfRangeByte_39247 0 = .ok (.iload_n 1, 1) := dz_27 (kBcJ7_copyOfRangeByte_39247_0 0 rfl rfl)
theorem dJ7_copyOfRangeByte_39247_1 : decode cJ7_copyOfRangeByte_39247 1 = .ok (.iload_n 2, 1) := dz_28 (kBcJ7_copyOfRangeByte_39247_0 1 rfl rfl)
theorem dJ7_copyOfRangeByte_39247_2 : decode cJ7_copyOfRangeByte_39247 2 = .ok (.invokestatic 343, 3) := dz_184 (kBcJ7_copyOfRangeByte_39247_0 2 rfl rfl) (kBcJ7_copyOfRangeByte_39247_0 3 rfl rfl) (kBcJ7_copyOfRangeByte_39247_0 4 rfl rfl) rfl
theorem dJ7_copyOfRangeByte_39247_5 : decode cJ7_copyOfRangeByte_39247 5 = .ok (.iload_n 2, 1) := dz_28 (kBcJ7_copyOfRangeByte_39247_0 5 rfl rfl)
theorem dJ7_copyOfRangeByte_39247_6 : decode cJ7_copyOfRangeByte_39247 6 = .ok (.iload_n 1, 1) := dz_27 (kBcJ7_copyOfRangeByte_39247_0 6 rfl rfl)
theorem dJ7_copyOfRangeByte_39247_7 : decode cJ7_copyOfRangeByte_39247 7 = .ok (.isub, 1) := dz_100 (kBcJ7_copyOfRangeByte_39247_0 7 rfl rfl)
theorem dJ7_copyOfRangeByte_39247_8 : decode cJ7_copyOfRangeByte_39247 8 = .ok (.istore_n 3, 1) := dz_62 (kBcJ7_copyOfRangeByte_39247_0 8 rfl rfl)
theorem dJ7_copyOfRangeByte_39247_9 : decode cJ7_copyOfRangeByte_39247 9 = .ok (.iload_n 3, 1) := dz_29 (kBcJ7_copyOfRangeByte_39247_0 9 rfl rfl)
theorem dJ7_copyOfRangeByte_39247_10 : decode cJ7_copyOfRangeByte_39247 10 = .ok (.newarray .byte, 2) := by decide +kernel
theorem dJ7_copyOfRangeByte_39247_12 : decode cJ7_copyOfRangeByte_39247 12 = .ok (.astore 4, 2) := dz_58 (kBcJ7_copyOfRangeByte_39247_0 12 rfl rfl) (kBcJ7_copyOfRangeByte_39247_0 13 rfl rfl)
theorem dJ7_copyOfRangeByte_39247_14 : decode cJ7_copyOfRangeByte_39247 14 = .ok (.aload_n 0, 1) := dz_42 (kBcJ7_copyOfRangeByte_39247_0 14 rfl rfl)
theorem dJ7_copyOfRangeByte_39247_15 : decode cJ7_copyOfRangeByte_39247 15 = .ok (.iload_n 1, 1) := dz_27 (kBcJ7_copyOfRangeByte_39247_0 15 rfl rfl)
theorem dJ7_copyOfRangeByte_39247_16 : decode cJ7_copyOfRangeByte_39247 16 = .ok (.aload 4, 2) := dz_25 (kBcJ7_copyOfRangeByte_39247_0 16 rfl rfl) (kBcJ7_copyOfRangeByte_39247_0 17 rfl rfl)
theorem dJ7_copyOfRangeByte_39247_18 : decode cJ7_copyOfRangeByte_39247 18 = .ok (.iconst 0, 1) := dz_3 (kBcJ7_copyOfRangeByte_39247_0 18 rfl rfl)
theorem dJ7_copyOfRangeByte_39247_19 : decode cJ7_copyOfRangeByte_39247 19 = .ok (.aload_n 0, 1) := dz_42 (kBcJ7_copyOfRangeByte_39247_0 19 rfl rfl)
theorem dJ7_copyOfRangeByte_39247_20 : decode cJ7_copyOfRangeByte_39247 20 = .ok (.arraylength, 1) := dz_190 (kBcJ7_copyOfRangeByte_39247_0 20 rfl rfl)
theorem dJ7_copyOfRangeByte_39247_21 : decode cJ7_copyOfRangeByte_39247 21 = .ok (.iload_n 1, 1) := dz_27 (kBcJ7_copyOfRangeByte_39247_0 21 rfl rfl)
theorem dJ7_copyOfRangeByte_39247_22 : decode cJ7_copyOfRangeByte_39247 22 = .ok (.isub, 1) := dz_100 (kBcJ7_copyOfRangeByte_39247_0 22 rfl rfl)
theorem dJ7_copyOfRangeByte_39247_23 : decode cJ7_copyOfRangeByte_39247 23 = .ok (.iload_n 3, 1) := dz_29 (kBcJ7_copyOfRangeByte_39247_0 23 rfl rfl)
theorem dJ7_copyOfRangeByte_39247_24 : decode cJ7_copyOfRangeByte_39247 24 = .ok (.invokestatic 304, 3) := dz_184 (kBcJ7_copyOfRangeByte_39247_0 24 rfl rfl) (kBcJ7_copyOfRangeByte_39247_0 25 rfl rfl) (kBcJ7_copyOfRangeByte_39247_0 26 rfl rfl) rfl
theorem dJ7_copyOfRangeByte_39247_27 : decode cJ7_copyOfRangeByte_39247 27 = .ok (.invokestatic 150, 3) := dz_184 (kBcJ7_copyOfRangeByte_39247_0 27 rfl rfl) (kBcJ7_copyOfRangeByte_39247_0 28 rfl rfl) (kBcJ7_copyOfRangeByte_39247_0 29 rfl rfl) rfl
theorem dJ7_copyOfRangeByte_39247_30 : decode cJ7_copyOfRangeByte_39247 30 = .ok (.aload 4, 2) := dz_25 (kBcJ7_copyOfRangeByte_39247_0 30 rfl rfl) (kBcJ7_copyOfRangeByte_39247_0 31 rfl rfl)
theorem dJ7_copyOfRangeByte_39247_32 : decode cJ7_copyOfRangeByte_39247 32 = .ok (.areturn, 1) := dz_176 (kBcJ7_copyOfRangeByte_39247_1 32 rfl rfl)
def kCcJ8_newLength_cabcc_0 : List Nat := [26, 27, 28, 184, 0, 194, 96, 62, 3, 29, 162, 0, 11, 29, 18, 200, 163, 0, 5, 29, 172, 26, 27, 184, 0, 201, 172]
theorem kRcJ8_newLength_cabcc_eq : cJ8_newLength_cabcc.data.toList.map UInt8.toNat = kCcJ8_newLength_cabcc_0 := by decide +kernel
theorem dJ8_newLength_cabcc_0 : decode cJ8_newLength_cabcc 0 = .ok (.iload_n 0, 1) := dz_26 (kin0 (p := 0) kRcJ8_newLength_cabcc_eq rfl)
theorem dJ8_newLength_cabcc_1 : decode cJ8_newLength_cabcc 1 = .ok (.iload_n 1, 1) := dz_27 (kin0 (p := 1) kRcJ8_newLength_cabcc_eq rfl)
theorem dJ8_newLength_cabcc_2 : decode cJ8_newLength_cabcc 2 = .ok (.iload_n 2, 1) := dz_28 (kin0 (p := 2) kRcJ8_newLength_cabcc_eq rfl)
theorem dJ8_newLength_cabcc_3 : decode cJ8_newLength_cabcc 3 = .ok (.invokestatic 194, 3) := dz_184 (kin0 (p := 3) kRcJ8_newLength_cabcc_eq rfl) (kin0 (p := 4) kRcJ8_newLength_cabcc_eq rfl) (kin0 (p := 5) kRcJ8_newLength_cabcc_eq rfl) rfl
theorem dJ8_newLength_cabcc_6 : decode cJ8_newLength_cabcc 6 = .ok (.iadd, 1) := dz_96 (kin0 (p := 6) kRcJ8_newLength_cabcc_eq rfl)
theorem dJ8_newLength_cabcc_7 : decode cJ8_newLength_cabcc 7 = .ok (.istore_n 3, 1) := dz_62 (kin0 (p := 7) kRcJ8_newLength_cabcc_eq rfl)
theorem dJ8_newLength_cabcc_8 : decode cJ8_newLength_cabcc 8 = .ok (.iconst 0, 1) := dz_3 (kin0 (p := 8) kRcJ8_newLength_cabcc_eq rfl)
theorem dJ8_newLength_cabcc_9 : decode cJ8_newLength_cabcc 9 = .ok (.iload_n 3, 1) := dz_29 (kin0 (p := 9) kRcJ8_newLength_cabcc_eq rfl)
theorem dJ8_newLength_cabcc_10 : decode cJ8_newLength_cabcc 10 = .ok (.if_icmp .ge 11, 3) := dz_162 (kin0 (p := 10) kRcJ8_newLength_cabcc_eq rfl) (kin0 (p := 11) kRcJ8_newLength_cabcc_eq rfl) (kin0 (p := 12) kRcJ8_newLength_cabcc_eq rfl) rfl
theorem dJ8_newLength_cabcc_13 : decode cJ8_newLength_cabcc 13 = .ok (.iload_n 3, 1) := dz_29 (kin0 (p := 13) kRcJ8_newLength_cabcc_eq rfl)
theorem dJ8_newLength_cabcc_14 : decode cJ8_newLength_cabcc 14 = .ok (.ldc 200, 2) := dz_18 (kin0 (p := 14) kRcJ8_newLength_cabcc_eq rfl) (kin0 (p := 15) kRcJ8_newLength_cabcc_eq rfl)
theorem dJ8_newLength_cabcc_16 : decode cJ8_newLength_cabcc 16 = .ok (.if_icmp .gt 5, 3) := dz_163 (kin0 (p := 16) kRcJ8_newLength_cabcc_eq rfl) (kin0 (p := 17) kRcJ8_newLength_cabcc_eq rfl) (kin0 (p := 18) kRcJ8_newLength_cabcc_eq rfl) rfl
theorem dJ8_newLength_cabcc_19 : decode cJ8_newLength_cabcc 19 = .ok (.iload_n 3, 1) := dz_29 (kin0 (p := 19) kRcJ8_newLength_cabcc_eq rfl)
theorem dJ8_newLength_cabcc_20 : decode cJ8_newLength_cabcc 20 = .ok (.ireturn, 1) := dz_172 (kin0 (p := 20) kRcJ8_newLength_cabcc_eq rfl)
theorem dJ8_newLength_cabcc_21 : decode cJ8_newLength_cabcc 21 = .ok (.iload_n 0, 1) := dz_26 (kin0 (p := 21) kRcJ8_newLength_cabcc_eq rfl)
theorem dJ8_newLength_cabcc_22 : decode cJ8_newLength_cabcc 22 = .ok (.iload_n 1, 1) := dz_27 (kin0 (p := 22) kRcJ8_newLength_cabcc_eq rfl)
theorem dJ8_newLength_cabcc_23 : decode cJ8_newLength_cabcc 23 = .ok (.invokestatic 201, 3) := dz_184 (kin0 (p := 23) kRcJ8_newLength_cabcc_eq rfl) (kin0 (p := 24) kRcJ8_newLength_cabcc_eq rfl) (kin0 (p := 25) kRcJ8_newLength_cabcc_eq rfl) rfl
theorem dJ8_newLength_cabcc_26 : decode cJ8_newLength_cabcc 26 = .ok (.ireturn, 1) := dz_172 (kin0 (p := 26) kRcJ8_newLength_cabcc_eq rfl)
def kCcJ8_hugeLength_7cf53_0 : List Nat := [26, 27, 96, 61, 28, 156, 0, 44, 187, 0, 204, 89, 187, 0, 89, 89, 183, 0, 91, 18, 206, 182, 0, 94, 26, 182, 0, 98, 18, 208, 182, 0]
def kCcJ8_hugeLength_7cf53_1 : List Nat := [94, 27, 182, 0, 98, 18, 210, 182, 0, 94, 182, 0, 101, 183, 0, 212, 191, 28, 18, 200, 163, 0, 6, 18, 200, 172, 28, 172]
def kRcJ8_hugeLength_7cf53_2 : List Nat := []
def kRcJ8_hugeLength_7cf53_1 : List Nat := kCcJ8_hugeLength_7cf53_1 ++ kRcJ8_hugeLength_7cf53_2
def kRcJ8_hugeLength_7cf53_0 : List Nat := kCcJ8_hugeLength_7cf53_0 ++ kRcJ8_hugeLength_7cf53_1
theorem kRcJ8_hugeLength_7cf53_eq : cJ8_hugeLength_7cf53.data.toList.map UInt8.toNat = kRcJ8_hugeLength_7cf53_0 := by decide +kernel
theorem katcJ8_hugeLength_7cf53_0 (i : Nat) : (cJ8_hugeLength_7cf53.data.toList.map UInt8.toNat)[0 + i]? = kRcJ8_hugeLength_7cf53_0[i]? := by rw [kRcJ8_hugeLength_7cf53_eq, Nat.zero_add]
theorem katcJ8_hugeLength_7cf53_1 : ∀ i : Nat, (cJ8_hugeLength_7cf53.data.toList.map UInt8.toNat)[32 + i]? = kRcJ8_hugeLength_7cf53_1[i]? := kstep katcJ8_hugeLength_7cf53_0 (C := kCcJ8_hugeLength_7cf53_0) rfl rfl
theorem kBcJ8_hugeLength_7cf53_0 {b : Nat} (p : Nat) (hp : Nat.ble 0 p = true) (h : kCcJ8_hugeLength_7cf53_0[p - 0]? = some b) : kb cJ8_hugeLength_7cf53 p b := kin katcJ8_hugeLength_7cf53_0 rfl hp h
theorem kBcJ8_hugeLength_7cf53_1 {b : Nat} (p : Nat) (hp : Nat.ble 32 p = true) (h : kCcJ8_hugeLength_7cf53_1[p - 32]? = some b) : kb cJ8_hugeLength_7cf53 p b := kin katcJ8_hugeLength_7cf53_1 rfl hp h
theorem dJ8_hugeLength_7cf53_0 : decode cJ8_hugeLength_7cf53 0 = .ok (.iload_n 0, 1) := dz_26 (kBcJ8_hugeLength_7cf53_0 0 rfl rfl)
theorem dJ8_hugeLength_7cf53_1 : decode cJ8_hugeLength_7cf53 1 = .ok (.iload_n 1, 1) := dz_27 (kBcJ8_hugeLength_7cf53_0 1 rfl rfl)
theorem dJ8_hugeLength_7cf53_2 : decode cJ8_hugeLength_7cf53 2 = .ok (.iadd, 1) := dz_96 (kBcJ8_hugeLength_7cf53_0 2 rfl rfl)
theorem dJ8_hugeLength_7cf53_3 : decode cJ8_hugeLength_7cf53 3 = .ok (.istore_n 2, 1) := dz_61 (kBcJ8_hugeLength_7cf53_0 3 rfl rfl)
theorem dJ8_hugeLength_7cf53_4 : decode cJ8_hugeLength_7cf53 4 = .ok (.iload_n 2, 1) := dz_28 (kBcJ8_hugeLength_7cf53_0 4 rfl rfl)
theorem dJ8_hugeLength_7cf53_5 : decode cJ8_hugeLength_7cf53 5 = .ok (.ifCond .ge 44, 3) := dz_156 (kBcJ8_hugeLength_7cf53_0 5 rfl rfl) (kBcJ8_hugeLength_7cf53_0 6 rfl rfl) (kBcJ8_hugeLength_7cf53_0 7 rfl rfl) rfl
theorem dJ8_hugeLength_7cf53_8 : decode cJ8_hugeLength_7cf53 8 = .ok (.new 204, 3) := dz_187 (kBcJ8_hugeLength_7cf53_0 8 rfl rfl) (kBcJ8_hugeLength_7cf53_0 9 rfl rfl) (kBcJ8_hugeLength_7cf53_0 10 rfl rfl) rfl
theorem dJ8_hugeLength_7cf53_11 : decode cJ8_hugeLength_7cf53 11 = .ok (.dup, 1) := dz_89 (kBcJ8_hugeLength_7cf53_0 11 rfl rfl)
theorem dJ8_hugeLength_7cf53_12 : decode cJ8_hugeLength_7cf53 12 = .ok (.new 89, 3) := dz_187 (kBcJ8_hugeLength_7cf53_0 12 rfl rfl) (kBcJ8_hugeLength_7cf53_0 13 rfl rfl) (kBcJ8_hugeLength_7cf53_0 14 rfl rfl) rfl
theorem dJ8_hugeLength_7cf53_15 : decode cJ8_hugeLength_7cf53 15 = .ok (.dup, 1) := dz_89 (kBcJ8_hugeLength_7cf53_0 15 rfl rfl)
theorem dJ8_hugeLength_7cf53_16 : decode cJ8_hugeLength_7cf53 16 = .ok (.invokespecial 91, 3) := dz_183 (kBcJ8_hugeLength_7cf53_0 16 rfl rfl) (kBcJ8_hugeLength_7cf53_0 17 rfl rfl) (kBcJ8_hugeLength_7cf53_0 18 rfl rfl) rfl
theorem dJ8_hugeLength_7cf53_19 : decode cJ8_hugeLength_7cf53 19 = .ok (.ldc 206, 2) := dz_18 (kBcJ8_hugeLength_7cf53_0 19 rfl rfl) (kBcJ8_hugeLength_7cf53_0 20 rfl rfl)
theorem dJ8_hugeLength_7cf53_21 : decode cJ8_hugeLength_7cf53 21 = .ok (.invokevirtual 94, 3) := dz_182 (kBcJ8_hugeLength_7cf53_0 21 rfl rfl) (kBcJ8_hugeLength_7cf53_0 22 rfl rfl) (kBcJ8_hugeLength_7cf53_0 23 rfl rfl) rfl
theorem dJ8_hugeLength_7cf53_24 : decode cJ8_hugeLength_7cf53 24 = .ok (.iload_n 0, 1) := dz_26 (kBcJ8_hugeLength_7cf53_0 24 rfl rfl)
theorem dJ8_hugeLength_7cf53_25 : decode cJ8_hugeLength_7cf53 25 = .ok (.invokevirtual 98, 3) := dz_182 (kBcJ8_hugeLength_7cf53_0 25 rfl rfl) (kBcJ8_hugeLength_7cf53_0 26 rfl rfl) (kBcJ8_hugeLength_7cf53_0 27 rfl rfl) rfl
theorem dJ8_hugeLength_7cf53_28 : decode cJ8_hugeLength_7cf53 28 = .ok (.ldc 208, 2) := dz_18 (kBcJ8_hugeLength_7cf53_0 28 rfl rfl) (kBcJ8_hugeLength_7cf53_0 29 rfl rfl)
theorem dJ8_hugeLength_7cf53_30 : decode cJ8_hugeLength_7cf53 30 = .ok (.invokevirtual 94, 3) := dz_182 (kBcJ8_hugeLength_7cf53_0 30 rfl rfl) (kBcJ8_hugeLength_7cf53_0 31 rfl rfl) (kBcJ8_hugeLength_7cf53_1 32 rfl rfl) rfl
theorem dJ8_hugeLength_7cf53_33 : decode cJ8_hugeLength_7cf53 33 = .ok (.iload_n 1, 1) := dz_27 (kBcJ8_hugeLength_7cf53_1 33 rfl rfl)
theorem dJ8_hugeLength_7cf53_34 : decode cJ8_hugeLength_7cf53 34 = .ok (.invokevirtual 98, 3) := dz_182 (kBcJ8_hugeLength_7cf53_1 34 rfl rfl) (kBcJ8_hugeLength_7cf53_1 35 rfl rfl) (kBcJ8_hugeLength_7cf53_1 36 rfl rfl) rfl
theorem dJ8_hugeLength_7cf53_37 : decode cJ8_hugeLength_7cf53 37 = .ok (.ldc 210, 2) := dz_18 (kBcJ8_hugeLength_7cf53_1 37 rfl rfl) (kBcJ8_hugeLength_7cf53_1 38 rfl rfl)
theorem dJ8_hugeLength_7cf53_39 : decode cJ8_hugeLength_7cf53 39 = .ok (.invokevirtual 94, 3) := dz_182 (kBcJ8_hugeLength_7cf53_1 39 rfl rfl) (kBcJ8_hugeLength_7cf53_1 40 rfl rfl) (kBcJ8_hugeLength_7cf53_1 41 rfl rfl) rfl
theorem dJ8_hugeLength_7cf53_42 : decode cJ8_hugeLength_7cf53 42 = .ok (.invokevirtual 101, 3) := dz_182 (kBcJ8_hugeLength_7cf53_1 42 rfl rfl) (kBcJ8_hugeLength_7cf53_1 43 rfl rfl) (kBcJ8_hugeLength_7cf53_1 44 rfl rfl) rfl
theorem dJ8_hugeLength_7cf53_45 : decode cJ8_hugeLength_7cf53 45 = .ok (.invokespecial 212, 3) := dz_183 (kBcJ8_hugeLength_7cf53_1 45 rfl rfl) (kBcJ8_hugeLength_7cf53_1 46 rfl rfl) (kBcJ8_hugeLength_7cf53_1 47 rfl rfl) rfl
theorem dJ8_hugeLength_7cf53_48 : decode cJ8_hugeLength_7cf53 48 = .ok (.athrow, 1) := dz_191 (kBcJ8_hugeLength_7cf53_1 48 rfl rfl)
theorem dJ8_hugeLength_7cf53_49 : decode cJ8_hugeLength_7cf53 49 = .ok (.iload_n 2, 1) := dz_28 (kBcJ8_hugeLength_7cf53_1 49 rfl rfl)
theorem dJ8_hugeLength_7cf53_50 : decode cJ8_hugeLength_7cf53 50 = .ok (.ldc 200, 2) := dz_18 (kBcJ8_hugeLength_7cf53_1 50 rfl rfl) (kBcJ8_hugeLength_7cf53_1 51 rfl rfl)
theorem dJ8_hugeLength_7cf53_52 : decode cJ8_hugeLength_7cf53 52 = .ok (.if_icmp .gt 6, 3) := dz_163 (kBcJ8_hugeLength_7cf53_1 52 rfl rfl) (kBcJ8_hugeLength_7cf53_1 53 rfl rfl) (kBcJ8_hugeLength_7cf53_1 54 rfl rfl) rfl
theorem dJ8_hugeLength_7cf53_55 : decode cJ8_hugeLength_7cf53 55 = .ok (.ldc 200, 2) := dz_18 (kBcJ8_hugeLength_7cf53_1 55 rfl rfl) (kBcJ8_hugeLength_7cf53_1 56 rfl rfl)
theorem dJ8_hugeLength_7cf53_57 : decode cJ8_hugeLength_7cf53 57 = .ok (.ireturn, 1) := dz_172 (kBcJ8_hugeLength_7cf53_1 57 rfl rfl)
theorem dJ8_hugeLength_7cf53_58 : decode cJ8_hugeLength_7cf53 58 = .ok (.iload_n 2, 1) := dz_28 (kBcJ8_hugeLength_7cf53_1 58 rfl rfl)
theorem dJ8_hugeLength_7cf53_59 : decode cJ8_hugeLength_7cf53 59 = .ok (.ireturn, 1) := dz_172 (kBcJ8_hugeLength_7cf53_1 59 rfl rfl)
def kCcJ3_checkIndex_8e157_0 : List Nat := [26, 155, 0, 8, 26, 27, 161, 0, 10, 44, 26, 27, 184, 0, 95, 191, 26, 172]
theorem kRcJ3_checkIndex_8e157_eq : cJ3_checkIndex_8e157.data.toList.map UInt8.toNat = kCcJ3_checkIndex_8e157_0 := by decide +kernel
theorem dJ3_checkIndex_8e157_0 : decode cJ3_checkIndex_8e157 0 = .ok (.iload_n 0, 1) := dz_26 (kin0 (p := 0) kRcJ3_checkIndex_8e157_eq rfl)
theorem dJ3_checkIndex_8e157_1 : decode cJ3_checkIndex_8e157 1 = .ok (.ifCond .lt 8, 3) := dz_155 (kin0 (p := 1) kRcJ3_checkIndex_8e157_eq rfl) (kin0 (p := 2) kRcJ3_checkIndex_8e157_eq rfl) (kin0 (p := 3) kRcJ3_checkIndex_8e157_eq rfl) rfl
theorem dJ3_checkIndex_8e157_4 : decode cJ3_checkIndex_8e157 4 = .ok (.iload_n 0, 1) := dz_26 (kin0 (p := 4) kRcJ3_checkIndex_8e157_eq rfl)
theorem dJ3_checkIndex_8e157_5 : decode cJ3_checkIndex_8e157 5 = .ok (.iload_n 1, 1) := dz_27 (kin0 (p := 5) kRcJ3_checkIndex_8e157_eq rfl)
theorem dJ3_checkIndex_8e157_6 : decode cJ3_checkIndex_8e157 6 = .ok (.if_icmp .lt 10, 3) := dz_161 (kin0 (p := 6) kRcJ3_checkIndex_8e157_eq rfl) (kin0 (p := 7) kRcJ3_checkIndex_8e157_eq rfl) (kin0 (p := 8) kRcJ3_checkIndex_8e157_eq rfl) rfl
theorem dJ3_checkIndex_8e157_9 : decode cJ3_checkIndex_8e157 9 = .ok (.aload_n 2, 1) := dz_44 (kin0 (p := 9) kRcJ3_checkIndex_8e157_eq rfl)
theorem dJ3_checkIndex_8e157_10 : decode cJ3_checkIndex_8e157 10 = .ok (.iload_n 0, 1) := dz_26 (kin0 (p := 10) kRcJ3_checkIndex_8e157_eq rfl)
theorem dJ3_checkIndex_8e157_11 : decode cJ3_checkIndex_8e157 11 = .ok (.iload_n 1, 1) := dz_27 (kin0 (p := 11) kRcJ3_checkIndex_8e157_eq rfl)
theorem dJ3_checkIndex_8e157_12 : decode cJ3_checkIndex_8e157 12 = .ok (.invokestatic 95, 3) := dz_184 (kin0 (p := 12) kRcJ3_checkIndex_8e157_eq rfl) (kin0 (p := 13) kRcJ3_checkIndex_8e157_eq rfl) (kin0 (p := 14) kRcJ3_checkIndex_8e157_eq rfl) rfl
theorem dJ3_checkIndex_8e157_15 : decode cJ3_checkIndex_8e157 15 = .ok (.athrow, 1) := dz_191 (kin0 (p := 15) kRcJ3_checkIndex_8e157_eq rfl)
theorem dJ3_checkIndex_8e157_16 : decode cJ3_checkIndex_8e157 16 = .ok (.iload_n 0, 1) := dz_26 (kin0 (p := 16) kRcJ3_checkIndex_8e157_eq rfl)
theorem dJ3_checkIndex_8e157_17 : decode cJ3_checkIndex_8e157 17 = .ok (.ireturn, 1) := dz_172 (kin0 (p := 17) kRcJ3_checkIndex_8e157_eq rfl)
def kCcJ3_checkFromToIndex_8c36e_0 : List Nat := [26, 155, 0, 13, 26, 27, 163, 0, 8, 27, 28, 164, 0, 11, 45, 26, 27, 28, 184, 0, 99, 191, 26, 172]
theorem kRcJ3_checkFromToIndex_8c36e_eq : cJ3_checkFromToIndex_8c36e.data.toList.map UInt8.toNat = kCcJ3_checkFromToIndex_8c36e_0 := by decide +kernel
theorem dJ3_checkFromToIndex_8c36e_0 : decode cJ3_checkFromToIndex_8c36e 0 = .ok (.iload_n 0, 1) := dz_26 (kin0 (p := 0) kRcJ3_checkFromToIndex_8c36e_eq rfl)
theorem dJ3_checkFromToIndex_8c36e_1 : decode cJ3_checkFromToIndex_8c36e 1 = .ok (.ifCond .lt 13, 3) := dz_155 (kin0 (p := 1) kRcJ3_checkFromToIndex_8c36e_eq rfl) (kin0 (p := 2) kRcJ3_checkFromToIndex_8c36e_eq rfl) (kin0 (p := 3) kRcJ3_checkFromToIndex_8c36e_eq rfl) rfl
theorem dJ3_checkFromToIndex_8c36e_4 : decode cJ3_checkFromToIndex_8c36e 4 = .ok (.iload_n 0, 1) := dz_26 (kin0 (p := 4) kRcJ3_checkFromToIndex_8c36e_eq rfl)
theorem dJ3_checkFromToIndex_8c36e_5 : decode cJ3_checkFromToIndex_8c36e 5 = .ok (.iload_n 1, 1) := dz_27 (kin0 (p := 5) kRcJ3_checkFromToIndex_8c36e_eq rfl)
theorem dJ3_checkFromToIndex_8c36e_6 : decode cJ3_checkFromToIndex_8c36e 6 = .ok (.if_icmp .gt 8, 3) := dz_163 (kin0 (p := 6) kRcJ3_checkFromToIndex_8c36e_eq rfl) (kin0 (p := 7) kRcJ3_checkFromToIndex_8c36e_eq rfl) (kin0 (p := 8) kRcJ3_checkFromToIndex_8c36e_eq rfl) rfl
theorem dJ3_checkFromToIndex_8c36e_9 : decode cJ3_checkFromToIndex_8c36e 9 = .ok (.iload_n 1, 1) := dz_27 (kin0 (p := 9) kRcJ3_checkFromToIndex_8c36e_eq rfl)
theorem dJ3_checkFromToIndex_8c36e_10 : decode cJ3_checkFromToIndex_8c36e 10 = .ok (.iload_n 2, 1) := dz_28 (kin0 (p := 10) kRcJ3_checkFromToIndex_8c36e_eq rfl)
theorem dJ3_checkFromToIndex_8c36e_11 : decode cJ3_checkFromToIndex_8c36e 11 = .ok (.if_icmp .le 11, 3) := dz_164 (kin0 (p := 11) kRcJ3_checkFromToIndex_8c36e_eq rfl) (kin0 (p := 12) kRcJ3_checkFromToIndex_8c36e_eq rfl) (kin0 (p := 13) kRcJ3_checkFromToIndex_8c36e_eq rfl) rfl
theorem dJ3_checkFromToIndex_8c36e_14 : decode cJ3_checkFromToIndex_8c36e 14 = .ok (.aload_n 3, 1) := dz_45 (kin0 (p := 14) kRcJ3_checkFromToIndex_8c36e_eq rfl)
theorem dJ3_checkFromToIndex_8c36e_15 : decode cJ3_checkFromToIndex_8c36e 15 = .ok (.iload_n 0, 1) := dz_26 (kin0 (p := 15) kRcJ3_checkFromToIndex_8c36e_eq rfl)
theorem dJ3_checkFromToIndex_8c36e_16 : decode cJ3_checkFromToIndex_8c36e 16 = .ok (.iload_n 1, 1) := dz_27 (kin0 (p := 16) kRcJ3_checkFromToIndex_8c36e_eq rfl)
theorem dJ3_checkFromToIndex_8c36e_17 : decode cJ3_checkFromToIndex_8c36e 17 = .ok (.iload_n 2, 1) := dz_28 (kin0 (p := 17) kRcJ3_checkFromToIndex_8c36e_eq rfl)
theorem dJ3_checkFromToIndex_8c36e_18 : decode cJ3_checkFromToIndex_8c36e 18 = .ok (.invokestatic 99, 3) := dz_184 (kin0 (p := 18) kRcJ3_checkFromToIndex_8c36e_eq rfl) (kin0 (p := 19) kRcJ3_checkFromToIndex_8c36e_eq rfl) (kin0 (p := 20) kRcJ3_checkFromToIndex_8c36e_eq rfl) rfl
theorem dJ3_checkFromToIndex_8c36e_21 : decode cJ3_checkFromToIndex_8c36e 21 = .ok (.athrow, 1) := dz_191 (kin0 (p := 21) kRcJ3_checkFromToIndex_8c36e_eq rfl)
theorem dJ3_checkFromToIndex_8c36e_22 : decode cJ3_checkFromToIndex_8c36e 22 = .ok (.iload_n 0, 1) := dz_26 (kin0 (p := 22) kRcJ3_checkFromToIndex_8c36e_eq rfl)
theorem dJ3_checkFromToIndex_8c36e_23 : decode cJ3_checkFromToIndex_8c36e 23 = .ok (.ireturn, 1) := dz_172 (kin0 (p := 23) kRcJ3_checkFromToIndex_8c36e_eq rfl)
def kCcJ3_checkFromIndexSize_8c36e_0 : List Nat := [28, 26, 128, 27, 128, 155, 0, 10, 27, 28, 26, 100, 164, 0, 11, 45, 26, 27, 28, 184, 0, 103, 191, 26, 172]
theorem kRcJ3_checkFromIndexSize_8c36e_eq : cJ3_checkFromIndexSize_8c36e.data.toList.map UInt8.toNat = kCcJ3_checkFromIndexSize_8c36e_0 := by decide +kernel
theorem dJ3_checkFromIndexSize_8c36e_0 : decode cJ3_checkFromIndexSize_8c36e 0 = .ok (.iload_n 2, 1) := dz_28 (kin0 (p := 0) kRcJ3_checkFromIndexSize_8c36e_eq rfl)
theorem dJ3_checkFromIndexSize_8c36e_1 : decode cJ3_checkFromIndexSize_8c36e 1 = .ok (.iload_n 0, 1) := dz_26 (kin0 (p := 1) kRcJ3_checkFromIndexSize_8c36e_eq rfl)
theorem dJ3_checkFromIndexSize_8c36e_2 : decode cJ3_checkFromIndexSize_8c36e 2 = .ok (.ior, 1) := dz_128 (kin0 (p := 2) kRcJ3_checkFromIndexSize_8c36e_eq rfl)
theorem dJ3_checkFromIndexSize_8c36e_3 : decode cJ3_checkFromIndexSize_8c36e 3 = .ok (.iload_n 1, 1) := dz_27 (kin0 (p := 3) kRcJ3_checkFromIndexSize_8c36e_eq rfl)
theorem dJ3_checkFromIndexSize_8c36e_4 : decode cJ3_checkFromIndexSize_8c36e 4 = .ok (.ior, 1) := dz_128 (kin0 (p := 4) kRcJ3_checkFromIndexSize_8c36e_eq rfl)
theorem dJ3_checkFromIndexSize_8c36e_5 : decode cJ3_checkFromIndexSize_8c36e 5 = .ok (.ifCond .lt 10, 3) := dz_155 (kin0 (p := 5) kRcJ3_checkFromIndexSize_8c36e_eq rfl) (kin0 (p := 6) kRcJ3_checkFromIndexSize_8c36e_eq rfl) (kin0 (p := 7) kRcJ3_checkFromIndexSize_8c36e_eq rfl) rfl
theorem dJ3_checkFromIndexSize_8c36e_8 : decode cJ3_checkFromIndexSize_8c36e 8 = .ok (.iload_n 1, 1) := dz_27 (kin0 (p := 8) kRcJ3_checkFromIndexSize_8c36e_eq rfl)
theorem dJ3_checkFromIndexSize_8c36e_9 : decode cJ3_checkFromIndexSize_8c36e 9 = .ok (.iload_n 2, 1) := dz_28 (kin0 (p := 9) kRcJ3_checkFromIndexSize_8c36e_eq rfl)
theorem dJ3_checkFromIndexSize_8c36e_10 : decode cJ3_checkFromIndexSize_8c36e 10 = .ok (.iload_n 0, 1) := dz_26 (kin0 (p := 10) kRcJ3_checkFromIndexSize_8c36e_eq rfl)
theorem dJ3_checkFromIndexSize_8c36e_11 : decode cJ3_checkFromIndexSize_8c36e 11 = .ok (.isub, 1) := dz_100 (kin0 (p := 11) kRcJ3_checkFromIndexSize_8c36e_eq rfl)
theorem dJ3_checkFromIndexSize_8c36e_12 : decode cJ3_checkFromIndexSize_8c36e 12 = .ok (.if_icmp .le 11, 3) := dz_164 (kin0 (p := 12) kRcJ3_checkFromIndexSize_8c36e_eq rfl) (kin0 (p := 13) kRcJ3_checkFromIndexSize_8c36e_eq rfl) (kin0 (p := 14) kRcJ3_checkFromIndexSize_8c36e_eq rfl) rfl
theorem dJ3_checkFromIndexSize_8c36e_15 : decode cJ3_checkFromIndexSize_8c36e 15 = .ok (.aload_n 3, 1) := dz_45 (kin0 (p := 15) kRcJ3_checkFromIndexSize_8c36e_eq rfl)
theorem dJ3_checkFromIndexSize_8c36e_16 : decode cJ3_checkFromIndexSize_8c36e 16 = .ok (.iload_n 0, 1) := dz_26 (kin0 (p := 16) kRcJ3_checkFromIndexSize_8c36e_eq rfl)
theorem dJ3_checkFromIndexSize_8c36e_17 : decode cJ3_checkFromIndexSize_8c36e 17 = .ok (.iload_n 1, 1) := dz_27 (kin0 (p := 17) kRcJ3_checkFromIndexSize_8c36e_eq rfl)
theorem dJ3_checkFromIndexSize_8c36e_18 : decode cJ3_checkFromIndexSize_8c36e 18 = .ok (.iload_n 2, 1) := dz_28 (kin0 (p := 18) kRcJ3_checkFromIndexSize_8c36e_eq rfl)
theorem dJ3_checkFromIndexSize_8c36e_19 : decode cJ3_checkFromIndexSize_8c36e 19 = .ok (.invokestatic 103, 3) := dz_184 (kin0 (p := 19) kRcJ3_checkFromIndexSize_8c36e_eq rfl) (kin0 (p := 20) kRcJ3_checkFromIndexSize_8c36e_eq rfl) (kin0 (p := 21) kRcJ3_checkFromIndexSize_8c36e_eq rfl) rfl
theorem dJ3_checkFromIndexSize_8c36e_22 : decode cJ3_checkFromIndexSize_8c36e 22 = .ok (.athrow, 1) := dz_191 (kin0 (p := 22) kRcJ3_checkFromIndexSize_8c36e_eq rfl)
theorem dJ3_checkFromIndexSize_8c36e_23 : decode cJ3_checkFromIndexSize_8c36e 23 = .ok (.iload_n 0, 1) := dz_26 (kin0 (p := 23) kRcJ3_checkFromIndexSize_8c36e_eq rfl)
theorem dJ3_checkFromIndexSize_8c36e_24 : decode cJ3_checkFromIndexSize_8c36e 24 = .ok (.ireturn, 1) := dz_172 (kin0 (p := 24) kRcJ3_checkFromIndexSize_8c36e_eq rfl)
def kCcL_leaf_0 : List Nat := [25, 4, 42, 27, 28, 29, 182, 0, 7, 133, 181, 0, 13, 167, 0, 11, 58, 5, 4, 172, 58, 5, 5, 172, 3, 172]
theorem kRcL_leaf_eq : cL_leaf.data.toList.map UInt8.toNat = kCcL_leaf_0 := by decide +kernel
theorem dL_leaf_0 : decode cL_leaf 0 = .ok (.aload 4, 2) := dz_25 (kin0 (p := 0) kRcL_leaf_eq rfl) (kin0 (p := 1) kRcL_leaf_eq rfl)
theorem dL_leaf_2 : decode cL_leaf 2 = .ok (.aload_n 0, 1) := dz_42 (kin0 (p := 2) kRcL_leaf_eq rfl)
theorem dL_leaf_3 : decode cL_leaf 3 = .ok (.iload_n 1, 1) := dz_27 (kin0 (p := 3) kRcL_leaf_eq rfl)
theorem dL_leaf_4 : decode cL_leaf 4 = .ok (.iload_n 2, 1) := dz_28 (kin0 (p := 4) kRcL_leaf_eq rfl)
theorem dL_leaf_5 : decode cL_leaf 5 = .ok (.iload_n 3, 1) := dz_29 (kin0 (p := 5) kRcL_leaf_eq rfl)
theorem dL_leaf_6 : decode cL_leaf 6 = .ok (.invokevirtual 7, 3) := dz_182 (kin0 (p := 6) kRcL_leaf_eq rfl) (kin0 (p := 7) kRcL_leaf_eq rfl) (kin0 (p := 8) kRcL_leaf_eq rfl) rfl
theorem dL_leaf_9 : decode cL_leaf 9 = .ok (.i2l, 1) := dz_133 (kin0 (p := 9) kRcL_leaf_eq rfl)
theorem dL_leaf_10 : decode cL_leaf 10 = .ok (.putfield 13, 3) := dz_181 (kin0 (p := 10) kRcL_leaf_eq rfl) (kin0 (p := 11) kRcL_leaf_eq rfl) (kin0 (p := 12) kRcL_leaf_eq rfl) rfl
theorem dL_leaf_13 : decode cL_leaf 13 = .ok (.goto 11, 3) := dz_167 (kin0 (p := 13) kRcL_leaf_eq rfl) (kin0 (p := 14) kRcL_leaf_eq rfl) (kin0 (p := 15) kRcL_leaf_eq rfl) rfl
theorem dL_leaf_16 : decode cL_leaf 16 = .ok (.astore 5, 2) := dz_58 (kin0 (p := 16) kRcL_leaf_eq rfl) (kin0 (p := 17) kRcL_leaf_eq rfl)
theorem dL_leaf_18 : decode cL_leaf 18 = .ok (.iconst 1, 1) := dz_4 (kin0 (p := 18) kRcL_leaf_eq rfl)
theorem dL_leaf_19 : decode cL_leaf 19 = .ok (.ireturn, 1) := dz_172 (kin0 (p := 19) kRcL_leaf_eq rfl)
theorem dL_leaf_20 : decode cL_leaf 20 = .ok (.astore 5, 2) := dz_58 (kin0 (p := 20) kRcL_leaf_eq rfl) (kin0 (p := 21) kRcL_leaf_eq rfl)
theorem dL_leaf_22 : decode cL_leaf 22 = .ok (.iconst 2, 1) := dz_5 (kin0 (p := 22) kRcL_leaf_eq rfl)
theorem dL_leaf_23 : decode cL_leaf 23 = .ok (.ireturn, 1) := dz_172 (kin0 (p := 23) kRcL_leaf_eq rfl)
theorem dL_leaf_24 : decode cL_leaf 24 = .ok (.iconst 0, 1) := dz_3 (kin0 (p := 24) kRcL_leaf_eq rfl)
theorem dL_leaf_25 : decode cL_leaf 25 = .ok (.ireturn, 1) := dz_172 (kin0 (p := 25) kRcL_leaf_eq rfl)
def kCcL_leafRound_0 : List Nat := [25, 4, 42, 27, 28, 29, 182, 0, 23, 133, 181, 0, 13, 167, 0, 11, 58, 5, 4, 172, 58, 5, 5, 172, 3, 172]
theorem kRcL_leafRound_eq : cL_leafRound.data.toList.map UInt8.toNat = kCcL_leafRound_0 := by decide +kernel
theorem dL_leafRound_0 : decode cL_leafRound 0 = .ok (.aload 4, 2) := dz_25 (kin0 (p := 0) kRcL_leafRound_eq rfl) (kin0 (p := 1) kRcL_leafRound_eq rfl)
theorem dL_leafRound_2 : decode cL_leafRound 2 = .ok (.aload_n 0, 1) := dz_42 (kin0 (p := 2) kRcL_leafRound_eq rfl)
theorem dL_leafRound_3 : decode cL_leafRound 3 = .ok (.iload_n 1, 1) := dz_27 (kin0 (p := 3) kRcL_leafRound_eq rfl)
theorem dL_leafRound_4 : decode cL_leafRound 4 = .ok (.iload_n 2, 1) := dz_28 (kin0 (p := 4) kRcL_leafRound_eq rfl)
theorem dL_leafRound_5 : decode cL_leafRound 5 = .ok (.iload_n 3, 1) := dz_29 (kin0 (p := 5) kRcL_leafRound_eq rfl)
theorem dL_leafRound_6 : decode cL_leafRound 6 = .ok (.invokevirtual 23, 3) := dz_182 (kin0 (p := 6) kRcL_leafRound_eq rfl) (kin0 (p := 7) kRcL_leafRound_eq rfl) (kin0 (p := 8) kRcL_leafRound_eq rfl) rfl
theorem dL_leafRound_9 : decode cL_leafRound 9 = .ok (.i2l, 1) := dz_133 (kin0 (p := 9) kRcL_leafRound_eq rfl)
theorem dL_leafRound_10 : decode cL_leafRound 10 = .ok (.putfield 13, 3) := dz_181 (kin0 (p := 10) kRcL_leafRound_eq rfl) (kin0 (p := 11) kRcL_leafRound_eq rfl) (kin0 (p := 12) kRcL_leafRound_eq rfl) rfl
theorem dL_leafRound_13 : decode cL_leafRound 13 = .ok (.goto 11, 3) := dz_167 (kin0 (p := 13) kRcL_leafRound_eq rfl) (kin0 (p := 14) kRcL_leafRound_eq rfl) (kin0 (p := 15) kRcL_leafRound_eq rfl) rfl
theorem dL_leafRound_16 : decode cL_leafRound 16 = .ok (.astore 5, 2) := dz_58 (kin0 (p := 16) kRcL_leafRound_eq rfl) (kin0 (p := 17) kRcL_leafRound_eq rfl)
theorem dL_leafRound_18 : decode cL_leafRound 18 = .ok (.iconst 1, 1) := dz_4 (kin0 (p := 18) kRcL_leafRound_eq rfl)
theorem dL_leafRound_19 : decode cL_leafRound 19 = .ok (.ireturn, 1) := dz_172 (kin0 (p := 19) kRcL_leafRound_eq rfl)
theorem dL_leafRound_20 : decode cL_leafRound 20 = .ok (.astore 5, 2) := dz_58 (kin0 (p := 20) kRcL_leafRound_eq rfl) (kin0 (p := 21) kRcL_leafRound_eq rfl)
theorem dL_leafRound_22 : decode cL_leafRound 22 = .ok (.iconst 2, 1) := dz_5 (kin0 (p := 22) kRcL_leafRound_eq rfl)
theorem dL_leafRound_23 : decode cL_leafRound 23 = .ok (.ireturn, 1) := dz_172 (kin0 (p := 23) kRcL_leafRound_eq rfl)
theorem dL_leafRound_24 : decode cL_leafRound 24 = .ok (.iconst 0, 1) := dz_3 (kin0 (p := 24) kRcL_leafRound_eq rfl)
theorem dL_leafRound_25 : decode cL_leafRound 25 = .ok (.ireturn, 1) := dz_172 (kin0 (p := 25) kRcL_leafRound_eq rfl)
def kCcL_months_0 : List Nat := [25, 4, 42, 27, 28, 29, 182, 0, 26, 133, 181, 0, 13, 167, 0, 7, 58, 5, 4, 172, 3, 172]
theorem kRcL_months_eq : cL_months.data.toList.map UInt8.toNat = kCcL_months_0 := by decide +kernel
theorem dL_months_0 : decode cL_months 0 = .ok (.aload 4, 2) := dz_25 (kin0 (p := 0) kRcL_months_eq rfl) (kin0 (p := 1) kRcL_months_eq rfl)
theorem dL_months_2 : decode cL_months 2 = .ok (.aload_n 0, 1) := dz_42 (kin0 (p := 2) kRcL_months_eq rfl)
theorem dL_months_3 : decode cL_months 3 = .ok (.iload_n 1, 1) := dz_27 (kin0 (p := 3) kRcL_months_eq rfl)
theorem dL_months_4 : decode cL_months 4 = .ok (.iload_n 2, 1) := dz_28 (kin0 (p := 4) kRcL_months_eq rfl)
theorem dL_months_5 : decode cL_months 5 = .ok (.iload_n 3, 1) := dz_29 (kin0 (p := 5) kRcL_months_eq rfl)
theorem dL_months_6 : decode cL_months 6 = .ok (.invokevirtual 26, 3) := dz_182 (kin0 (p := 6) kRcL_months_eq rfl) (kin0 (p := 7) kRcL_months_eq rfl) (kin0 (p := 8) kRcL_months_eq rfl) rfl
theorem dL_months_9 : decode cL_months 9 = .ok (.i2l, 1) := dz_133 (kin0 (p := 9) kRcL_months_eq rfl)
theorem dL_months_10 : decode cL_months 10 = .ok (.putfield 13, 3) := dz_181 (kin0 (p := 10) kRcL_months_eq rfl) (kin0 (p := 11) kRcL_months_eq rfl) (kin0 (p := 12) kRcL_months_eq rfl) rfl
theorem dL_months_13 : decode cL_months 13 = .ok (.goto 7, 3) := dz_167 (kin0 (p := 13) kRcL_months_eq rfl) (kin0 (p := 14) kRcL_months_eq rfl) (kin0 (p := 15) kRcL_months_eq rfl) rfl
theorem dL_months_16 : decode cL_months 16 = .ok (.astore 5, 2) := dz_58 (kin0 (p := 16) kRcL_months_eq rfl) (kin0 (p := 17) kRcL_months_eq rfl)
theorem dL_months_18 : decode cL_months 18 = .ok (.iconst 1, 1) := dz_4 (kin0 (p := 18) kRcL_months_eq rfl)
theorem dL_months_19 : decode cL_months 19 = .ok (.ireturn, 1) := dz_172 (kin0 (p := 19) kRcL_months_eq rfl)
theorem dL_months_20 : decode cL_months 20 = .ok (.iconst 0, 1) := dz_3 (kin0 (p := 20) kRcL_months_eq rfl)
theorem dL_months_21 : decode cL_months 21 = .ok (.ireturn, 1) := dz_172 (kin0 (p := 21) kRcL_months_eq rfl)
def kCcL_years_0 : List Nat := [25, 4, 42, 27, 28, 29, 182, 0, 30, 133, 181, 0, 13, 167, 0, 7, 58, 5, 4, 172, 3, 172]
theorem kRcL_years_eq : cL_years.data.toList.map UInt8.toNat = kCcL_years_0 := by decide +kernel
theorem dL_years_0 : decode cL_years 0 = .ok (.aload 4, 2) := dz_25 (kin0 (p := 0) kRcL_years_eq rfl) (kin0 (p := 1) kRcL_years_eq rfl)
theorem dL_years_2 : decode cL_years 2 = .ok (.aload_n 0, 1) := dz_42 (kin0 (p := 2) kRcL_years_eq rfl)
theorem dL_years_3 : decode cL_years 3 = .ok (.iload_n 1, 1) := dz_27 (kin0 (p := 3) kRcL_years_eq rfl)
theorem dL_years_4 : decode cL_years 4 = .ok (.iload_n 2, 1) := dz_28 (kin0 (p := 4) kRcL_years_eq rfl)
theorem dL_years_5 : decode cL_years 5 = .ok (.iload_n 3, 1) := dz_29 (kin0 (p := 5) kRcL_years_eq rfl)
theorem dL_years_6 : decode cL_years 6 = .ok (.invokevirtual 30, 3) := dz_182 (kin0 (p := 6) kRcL_years_eq rfl) (kin0 (p := 7) kRcL_years_eq rfl) (kin0 (p := 8) kRcL_years_eq rfl) rfl
theorem dL_years_9 : decode cL_years 9 = .ok (.i2l, 1) := dz_133 (kin0 (p := 9) kRcL_years_eq rfl)
theorem dL_years_10 : decode cL_years 10 = .ok (.putfield 13, 3) := dz_181 (kin0 (p := 10) kRcL_years_eq rfl) (kin0 (p := 11) kRcL_years_eq rfl) (kin0 (p := 12) kRcL_years_eq rfl) rfl
theorem dL_years_13 : decode cL_years 13 = .ok (.goto 7, 3) := dz_167 (kin0 (p := 13) kRcL_years_eq rfl) (kin0 (p := 14) kRcL_years_eq rfl) (kin0 (p := 15) kRcL_years_eq rfl) rfl
theorem dL_years_16 : decode cL_years 16 = .ok (.astore 5, 2) := dz_58 (kin0 (p := 16) kRcL_years_eq rfl) (kin0 (p := 17) kRcL_years_eq rfl)
theorem dL_years_18 : decode cL_years 18 = .ok (.iconst 1, 1) := dz_4 (kin0 (p := 18) kRcL_years_eq rfl)
theorem dL_years_19 : decode cL_years 19 = .ok (.ireturn, 1) := dz_172 (kin0 (p := 19) kRcL_years_eq rfl)
theorem dL_years_20 : decode cL_years 20 = .ok (.iconst 0, 1) := dz_3 (kin0 (p := 20) kRcL_years_eq rfl)
theorem dL_years_21 : decode cL_years 21 = .ok (.ireturn, 1) := dz_172 (kin0 (p := 21) kRcL_years_eq rfl)
def kCcL_units_0 : List Nat := [25, 5, 42, 27, 28, 29, 21, 4, 182, 0, 33, 133, 181, 0, 13, 167, 0, 11, 58, 6, 4, 172, 58, 6, 5, 172, 3, 172]
theorem kRcL_units_eq : cL_units.data.toList.map UInt8.toNat = kCcL_units_0 := by decide +kernel
theorem dL_units_0 : decode cL_units 0 = .ok (.aload 5, 2) := dz_25 (kin0 (p := 0) kRcL_units_eq rfl) (kin0 (p := 1) kRcL_units_eq rfl)
theorem dL_units_2 : decode cL_units 2 = .ok (.aload_n 0, 1) := dz_42 (kin0 (p := 2) kRcL_units_eq rfl)
theorem dL_units_3 : decode cL_units 3 = .ok (.iload_n 1, 1) := dz_27 (kin0 (p := 3) kRcL_units_eq rfl)
theorem dL_units_4 : decode cL_units 4 = .ok (.iload_n 2, 1) := dz_28 (kin0 (p := 4) kRcL_units_eq rfl)
theorem dL_units_5 : decode cL_units 5 = .ok (.iload_n 3, 1) := dz_29 (kin0 (p := 5) kRcL_units_eq rfl)
theorem dL_units_6 : decode cL_units 6 = .ok (.iload 4, 2) := dz_21 (kin0 (p := 6) kRcL_units_eq rfl) (kin0 (p := 7) kRcL_units_eq rfl)
theorem dL_units_8 : decode cL_units 8 = .ok (.invokevirtual 33, 3) := dz_182 (kin0 (p := 8) kRcL_units_eq rfl) (kin0 (p := 9) kRcL_units_eq rfl) (kin0 (p := 10) kRcL_units_eq rfl) rfl
theorem dL_units_11 : decode cL_units 11 = .ok (.i2l, 1) := dz_133 (kin0 (p := 11) kRcL_units_eq rfl)
theorem dL_units_12 : decode cL_units 12 = .ok (.putfield 13, 3) := dz_181 (kin0 (p := 12) kRcL_units_eq rfl) (kin0 (p := 13) kRcL_units_eq rfl) (kin0 (p := 14) kRcL_units_eq rfl) rfl
theorem dL_units_15 : decode cL_units 15 = .ok (.goto 11, 3) := dz_167 (kin0 (p := 15) kRcL_units_eq rfl) (kin0 (p := 16) kRcL_units_eq rfl) (kin0 (p := 17) kRcL_units_eq rfl) rfl
theorem dL_units_18 : decode cL_units 18 = .ok (.astore 6, 2) := dz_58 (kin0 (p := 18) kRcL_units_eq rfl) (kin0 (p := 19) kRcL_units_eq rfl)
theorem dL_units_20 : decode cL_units 20 = .ok (.iconst 1, 1) := dz_4 (kin0 (p := 20) kRcL_units_eq rfl)
theorem dL_units_21 : decode cL_units 21 = .ok (.ireturn, 1) := dz_172 (kin0 (p := 21) kRcL_units_eq rfl)
theorem dL_units_22 : decode cL_units 22 = .ok (.astore 6, 2) := dz_58 (kin0 (p := 22) kRcL_units_eq rfl) (kin0 (p := 23) kRcL_units_eq rfl)
theorem dL_units_24 : decode cL_units 24 = .ok (.iconst 2, 1) := dz_5 (kin0 (p := 24) kRcL_units_eq rfl)
theorem dL_units_25 : decode cL_units 25 = .ok (.ireturn, 1) := dz_172 (kin0 (p := 25) kRcL_units_eq rfl)
theorem dL_units_26 : decode cL_units 26 = .ok (.iconst 0, 1) := dz_3 (kin0 (p := 26) kRcL_units_eq rfl)
theorem dL_units_27 : decode cL_units 27 = .ok (.ireturn, 1) := dz_172 (kin0 (p := 27) kRcL_units_eq rfl)
def kCcL_both_0 : List Nat := [25, 5, 42, 27, 28, 29, 21, 4, 182, 0, 37, 133, 181, 0, 13, 167, 0, 11, 58, 6, 4, 172, 58, 6, 5, 172, 3, 172]
theorem kRcL_both_eq : cL_both.data.toList.map UInt8.toNat = kCcL_both_0 := by decide +kernel
theorem dL_both_0 : decode cL_both 0 = .ok (.aload 5, 2) := dz_25 (kin0 (p := 0) kRcL_both_eq rfl) (kin0 (p := 1) kRcL_both_eq rfl)
theorem dL_both_2 : decode cL_both 2 = .ok (.aload_n 0, 1) := dz_42 (kin0 (p := 2) kRcL_both_eq rfl)
theorem dL_both_3 : decode cL_both 3 = .ok (.iload_n 1, 1) := dz_27 (kin0 (p := 3) kRcL_both_eq rfl)
theorem dL_both_4 : decode cL_both 4 = .ok (.iload_n 2, 1) := dz_28 (kin0 (p := 4) kRcL_both_eq rfl)
theorem dL_both_5 : decode cL_both 5 = .ok (.iload_n 3, 1) := dz_29 (kin0 (p := 5) kRcL_both_eq rfl)
theorem dL_both_6 : decode cL_both 6 = .ok (.iload 4, 2) := dz_21 (kin0 (p := 6) kRcL_both_eq rfl) (kin0 (p := 7) kRcL_both_eq rfl)
theorem dL_both_8 : decode cL_both 8 = .ok (.invokevirtual 37, 3) := dz_182 (kin0 (p := 8) kRcL_both_eq rfl) (kin0 (p := 9) kRcL_both_eq rfl) (kin0 (p := 10) kRcL_both_eq rfl) rfl
theorem dL_both_11 : decode cL_both 11 = .ok (.i2l, 1) := dz_133 (kin0 (p := 11) kRcL_both_eq rfl)
theorem dL_both_12 : decode cL_both 12 = .ok (.putfield 13, 3) := dz_181 (kin0 (p := 12) kRcL_both_eq rfl) (kin0 (p := 13) kRcL_both_eq rfl) (kin0 (p := 14) kRcL_both_eq rfl) rfl
theorem dL_both_15 : decode cL_both 15 = .ok (.goto 11, 3) := dz_167 (kin0 (p := 15) kRcL_both_eq rfl) (kin0 (p := 16) kRcL_both_eq rfl) (kin0 (p := 17) kRcL_both_eq rfl) rfl
theorem dL_both_18 : decode cL_both 18 = .ok (.astore 6, 2) := dz_58 (kin0 (p := 18) kRcL_both_eq rfl) (kin0 (p := 19) kRcL_both_eq rfl)
theorem dL_both_20 : decode cL_both 20 = .ok (.iconst 1, 1) := dz_4 (kin0 (p := 20) kRcL_both_eq rfl)
theorem dL_both_21 : decode cL_both 21 = .ok (.ireturn, 1) := dz_172 (kin0 (p := 21) kRcL_both_eq rfl)
theorem dL_both_22 : decode cL_both 22 = .ok (.astore 6, 2) := dz_58 (kin0 (p := 22) kRcL_both_eq rfl) (kin0 (p := 23) kRcL_both_eq rfl)
theorem dL_both_24 : decode cL_both 24 = .ok (.iconst 2, 1) := dz_5 (kin0 (p := 24) kRcL_both_eq rfl)
theorem dL_both_25 : decode cL_both 25 = .ok (.ireturn, 1) := dz_172 (kin0 (p := 25) kRcL_both_eq rfl)
theorem dL_both_26 : decode cL_both 26 = .ok (.iconst 0, 1) := dz_3 (kin0 (p := 26) kRcL_both_eq rfl)
theorem dL_both_27 : decode cL_both 27 = .ok (.ireturn, 1) := dz_172 (kin0 (p := 27) kRcL_both_eq rfl)
def kCcL_leafYear_0 : List Nat := [45, 42, 27, 28, 182, 0, 40, 133, 181, 0, 13, 167, 0, 11, 58, 4, 4, 172, 58, 4, 5, 172, 3, 172]
theorem kRcL_leafYear_eq : cL_leafYear.data.toList.map UInt8.toNat = kCcL_leafYear_0 := by decide +kernel
theorem dL_leafYear_0 : decode cL_leafYear 0 = .ok (.aload_n 3, 1) := dz_45 (kin0 (p := 0) kRcL_leafYear_eq rfl)
theorem dL_leafYear_1 : decode cL_leafYear 1 = .ok (.aload_n 0, 1) := dz_42 (kin0 (p := 1) kRcL_leafYear_eq rfl)
theorem dL_leafYear_2 : decode cL_leafYear 2 = .ok (.iload_n 1, 1) := dz_27 (kin0 (p := 2) kRcL_leafYear_eq rfl)
theorem dL_leafYear_3 : decode cL_leafYear 3 = .ok (.iload_n 2, 1) := dz_28 (kin0 (p := 3) kRcL_leafYear_eq rfl)
theorem dL_leafYear_4 : decode cL_leafYear 4 = .ok (.invokevirtual 40, 3) := dz_182 (kin0 (p := 4) kRcL_leafYear_eq rfl) (kin0 (p := 5) kRcL_leafYear_eq rfl) (kin0 (p := 6) kRcL_leafYear_eq rfl) rfl
theorem dL_leafYear_7 : decode cL_leafYear 7 = .ok (.i2l, 1) := dz_133 (kin0 (p := 7) kRcL_leafYear_eq rfl)
theorem dL_leafYear_8 : decode cL_leafYear 8 = .ok (.putfield 13, 3) := dz_181 (kin0 (p := 8) kRcL_leafYear_eq rfl) (kin0 (p := 9) kRcL_leafYear_eq rfl) (kin0 (p := 10) kRcL_leafYear_eq rfl) rfl
theorem dL_leafYear_11 : decode cL_leafYear 11 = .ok (.goto 11, 3) := dz_167 (kin0 (p := 11) kRcL_leafYear_eq rfl) (kin0 (p := 12) kRcL_leafYear_eq rfl) (kin0 (p := 13) kRcL_leafYear_eq rfl) rfl
theorem dL_leafYear_14 : decode cL_leafYear 14 = .ok (.astore 4, 2) := dz_58 (kin0 (p := 14) kRcL_leafYear_eq rfl) (kin0 (p := 15) kRcL_leafYear_eq rfl)
theorem dL_leafYear_16 : decode cL_leafYear 16 = .ok (.iconst 1, 1) := dz_4 (kin0 (p := 16) kRcL_leafYear_eq rfl)
theorem dL_leafYear_17 : decode cL_leafYear 17 = .ok (.ireturn, 1) := dz_172 (kin0 (p := 17) kRcL_leafYear_eq rfl)
theorem dL_leafYear_18 : decode cL_leafYear 18 = .ok (.astore 4, 2) := dz_58 (kin0 (p := 18) kRcL_leafYear_eq rfl) (kin0 (p := 19) kRcL_leafYear_eq rfl)
theorem dL_leafYear_20 : decode cL_leafYear 20 = .ok (.iconst 2, 1) := dz_5 (kin0 (p := 20) kRcL_leafYear_eq rfl)
theorem dL_leafYear_21 : decode cL_leafYear 21 = .ok (.ireturn, 1) := dz_172 (kin0 (p := 21) kRcL_leafYear_eq rfl)
theorem dL_leafYear_22 : decode cL_leafYear 22 = .ok (.iconst 0, 1) := dz_3 (kin0 (p := 22) kRcL_leafYear_eq rfl)
theorem dL_leafYear_23 : decode cL_leafYear 23 = .ok (.ireturn, 1) := dz_172 (kin0 (p := 23) kRcL_leafYear_eq rfl)
def kCcL_leafMonth_0 : List Nat := [45, 42, 27, 28, 182, 0, 44, 133, 181, 0, 13, 167, 0, 11, 58, 4, 4, 172, 58, 4, 5, 172, 3, 172]
theorem kRcL_leafMonth_eq : cL_leafMonth.data.toList.map UInt8.toNat = kCcL_leafMonth_0 := by decide +kernel
theorem dL_leafMonth_0 : decode cL_leafMonth 0 = .ok (.aload_n 3, 1) := dz_45 (kin0 (p := 0) kRcL_leafMonth_eq rfl)
theorem dL_leafMonth_1 : decode cL_leafMonth 1 = .ok (.aload_n 0, 1) := dz_42 (kin0 (p := 1) kRcL_leafMonth_eq rfl)
theorem dL_leafMonth_2 : decode cL_leafMonth 2 = .ok (.iload_n 1, 1) := dz_27 (kin0 (p := 2) kRcL_leafMonth_eq rfl)
theorem dL_leafMonth_3 : decode cL_leafMonth 3 = .ok (.iload_n 2, 1) := dz_28 (kin0 (p := 3) kRcL_leafMonth_eq rfl)
theorem dL_leafMonth_4 : decode cL_leafMonth 4 = .ok (.invokevirtual 44, 3) := dz_182 (kin0 (p := 4) kRcL_leafMonth_eq rfl) (kin0 (p := 5) kRcL_leafMonth_eq rfl) (kin0 (p := 6) kRcL_leafMonth_eq rfl) rfl
theorem dL_leafMonth_7 : decode cL_leafMonth 7 = .ok (.i2l, 1) := dz_133 (kin0 (p := 7) kRcL_leafMonth_eq rfl)
theorem dL_leafMonth_8 : decode cL_leafMonth 8 = .ok (.putfield 13, 3) := dz_181 (kin0 (p := 8) kRcL_leafMonth_eq rfl) (kin0 (p := 9) kRcL_leafMonth_eq rfl) (kin0 (p := 10) kRcL_leafMonth_eq rfl) rfl
theorem dL_leafMonth_11 : decode cL_leafMonth 11 = .ok (.goto 11, 3) := dz_167 (kin0 (p := 11) kRcL_leafMonth_eq rfl) (kin0 (p := 12) kRcL_leafMonth_eq rfl) (kin0 (p := 13) kRcL_leafMonth_eq rfl) rfl
theorem dL_leafMonth_14 : decode cL_leafMonth 14 = .ok (.astore 4, 2) := dz_58 (kin0 (p := 14) kRcL_leafMonth_eq rfl) (kin0 (p := 15) kRcL_leafMonth_eq rfl)
theorem dL_leafMonth_16 : decode cL_leafMonth 16 = .ok (.iconst 1, 1) := dz_4 (kin0 (p := 16) kRcL_leafMonth_eq rfl)
theorem dL_leafMonth_17 : decode cL_leafMonth 17 = .ok (.ireturn, 1) := dz_172 (kin0 (p := 17) kRcL_leafMonth_eq rfl)
theorem dL_leafMonth_18 : decode cL_leafMonth 18 = .ok (.astore 4, 2) := dz_58 (kin0 (p := 18) kRcL_leafMonth_eq rfl) (kin0 (p := 19) kRcL_leafMonth_eq rfl)
theorem dL_leafMonth_20 : decode cL_leafMonth 20 = .ok (.iconst 2, 1) := dz_5 (kin0 (p := 20) kRcL_leafMonth_eq rfl)
theorem dL_leafMonth_21 : decode cL_leafMonth 21 = .ok (.ireturn, 1) := dz_172 (kin0 (p := 21) kRcL_leafMonth_eq rfl)
theorem dL_leafMonth_22 : decode cL_leafMonth 22 = .ok (.iconst 0, 1) := dz_3 (kin0 (p := 22) kRcL_leafMonth_eq rfl)
theorem dL_leafMonth_23 : decode cL_leafMonth 23 = .ok (.ireturn, 1) := dz_172 (kin0 (p := 23) kRcL_leafMonth_eq rfl)
def kCcL_leafWith_0 : List Nat := [25, 4, 42, 27, 28, 29, 182, 0, 47, 133, 181, 0, 13, 167, 0, 11, 58, 5, 4, 172, 58, 5, 5, 172, 3, 172]
theorem kRcL_leafWith_eq : cL_leafWith.data.toList.map UInt8.toNat = kCcL_leafWith_0 := by decide +kernel
theorem dL_leafWith_0 : decode cL_leafWith 0 = .ok (.aload 4, 2) := dz_25 (kin0 (p := 0) kRcL_leafWith_eq rfl) (kin0 (p := 1) kRcL_leafWith_eq rfl)
theorem dL_leafWith_2 : decode cL_leafWith 2 = .ok (.aload_n 0, 1) := dz_42 (kin0 (p := 2) kRcL_leafWith_eq rfl)
theorem dL_leafWith_3 : decode cL_leafWith 3 = .ok (.iload_n 1, 1) := dz_27 (kin0 (p := 3) kRcL_leafWith_eq rfl)
theorem dL_leafWith_4 : decode cL_leafWith 4 = .ok (.iload_n 2, 1) := dz_28 (kin0 (p := 4) kRcL_leafWith_eq rfl)
theorem dL_leafWith_5 : decode cL_leafWith 5 = .ok (.iload_n 3, 1) := dz_29 (kin0 (p := 5) kRcL_leafWith_eq rfl)
theorem dL_leafWith_6 : decode cL_leafWith 6 = .ok (.invokevirtual 47, 3) := dz_182 (kin0 (p := 6) kRcL_leafWith_eq rfl) (kin0 (p := 7) kRcL_leafWith_eq rfl) (kin0 (p := 8) kRcL_leafWith_eq rfl) rfl
theorem dL_leafWith_9 : decode cL_leafWith 9 = .ok (.i2l, 1) := dz_133 (kin0 (p := 9) kRcL_leafWith_eq rfl)
theorem dL_leafWith_10 : decode cL_leafWith 10 = .ok (.putfield 13, 3) := dz_181 (kin0 (p := 10) kRcL_leafWith_eq rfl) (kin0 (p := 11) kRcL_leafWith_eq rfl) (kin0 (p := 12) kRcL_leafWith_eq rfl) rfl
theorem dL_leafWith_13 : decode cL_leafWith 13 = .ok (.goto 11, 3) := dz_167 (kin0 (p := 13) kRcL_leafWith_eq rfl) (kin0 (p := 14) kRcL_leafWith_eq rfl) (kin0 (p := 15) kRcL_leafWith_eq rfl) rfl
theorem dL_leafWith_16 : decode cL_leafWith 16 = .ok (.astore 5, 2) := dz_58 (kin0 (p := 16) kRcL_leafWith_eq rfl) (kin0 (p := 17) kRcL_leafWith_eq rfl)
theorem dL_leafWith_18 : decode cL_leafWith 18 = .ok (.iconst 1, 1) := dz_4 (kin0 (p := 18) kRcL_leafWith_eq rfl)
theorem dL_leafWith_19 : decode cL_leafWith 19 = .ok (.ireturn, 1) := dz_172 (kin0 (p := 19) kRcL_leafWith_eq rfl)
theorem dL_leafWith_20 : decode cL_leafWith 20 = .ok (.astore 5, 2) := dz_58 (kin0 (p := 20) kRcL_leafWith_eq rfl) (kin0 (p := 21) kRcL_leafWith_eq rfl)
theorem dL_leafWith_22 : decode cL_leafWith 22 = .ok (.iconst 2, 1) := dz_5 (kin0 (p := 22) kRcL_leafWith_eq rfl)
theorem dL_leafWith_23 : decode cL_leafWith 23 = .ok (.ireturn, 1) := dz_172 (kin0 (p := 23) kRcL_leafWith_eq rfl)
theorem dL_leafWith_24 : decode cL_leafWith 24 = .ok (.iconst 0, 1) := dz_3 (kin0 (p := 24) kRcL_leafWith_eq rfl)
theorem dL_leafWith_25 : decode cL_leafWith 25 = .ok (.ireturn, 1) := dz_172 (kin0 (p := 25) kRcL_leafWith_eq rfl)
def kCcL_leafOf_0 : List Nat := [25, 4, 42, 27, 28, 29, 182, 0, 50, 133, 181, 0, 13, 167, 0, 11, 58, 5, 4, 172, 58, 5, 5, 172, 3, 172]
theorem kRcL_leafOf_eq : cL_leafOf.data.toList.map UInt8.toNat = kCcL_leafOf_0 := by decide +kernel
theorem dL_leafOf_0 : decode cL_leafOf 0 = .ok (.aload 4, 2) := dz_25 (kin0 (p := 0) kRcL_leafOf_eq rfl) (kin0 (p := 1) kRcL_leafOf_eq rfl)
theorem dL_leafOf_2 : decode cL_leafOf 2 = .ok (.aload_n 0, 1) := dz_42 (kin0 (p := 2) kRcL_leafOf_eq rfl)
theorem dL_leafOf_3 : decode cL_leafOf 3 = .ok (.iload_n 1, 1) := dz_27 (kin0 (p := 3) kRcL_leafOf_eq rfl)
theorem dL_leafOf_4 : decode cL_leafOf 4 = .ok (.iload_n 2, 1) := dz_28 (kin0 (p := 4) kRcL_leafOf_eq rfl)
theorem dL_leafOf_5 : decode cL_leafOf 5 = .ok (.iload_n 3, 1) := dz_29 (kin0 (p := 5) kRcL_leafOf_eq rfl)
theorem dL_leafOf_6 : decode cL_leafOf 6 = .ok (.invokevirtual 50, 3) := dz_182 (kin0 (p := 6) kRcL_leafOf_eq rfl) (kin0 (p := 7) kRcL_leafOf_eq rfl) (kin0 (p := 8) kRcL_leafOf_eq rfl) rfl
theorem dL_leafOf_9 : decode cL_leafOf 9 = .ok (.i2l, 1) := dz_133 (kin0 (p := 9) kRcL_leafOf_eq rfl)
theorem dL_leafOf_10 : decode cL_leafOf 10 = .ok (.putfield 13, 3) := dz_181 (kin0 (p := 10) kRcL_leafOf_eq rfl) (kin0 (p := 11) kRcL_leafOf_eq rfl) (kin0 (p := 12) kRcL_leafOf_eq rfl) rfl
theorem dL_leafOf_13 : decode cL_leafOf 13 = .ok (.goto 11, 3) := dz_167 (kin0 (p := 13) kRcL_leafOf_eq rfl) (kin0 (p := 14) kRcL_leafOf_eq rfl) (kin0 (p := 15) kRcL_leafOf_eq rfl) rfl
theorem dL_leafOf_16 : decode cL_leafOf 16 = .ok (.astore 5, 2) := dz_58 (kin0 (p := 16) kRcL_leafOf_eq rfl) (kin0 (p := 17) kRcL_leafOf_eq rfl)
theorem dL_leafOf_18 : decode cL_leafOf 18 = .ok (.iconst 1, 1) := dz_4 (kin0 (p := 18) kRcL_leafOf_eq rfl)
theorem dL_leafOf_19 : decode cL_leafOf 19 = .ok (.ireturn, 1) := dz_172 (kin0 (p := 19) kRcL_leafOf_eq rfl)
theorem dL_leafOf_20 : decode cL_leafOf 20 = .ok (.astore 5, 2) := dz_58 (kin0 (p := 20) kRcL_leafOf_eq rfl) (kin0 (p := 21) kRcL_leafOf_eq rfl)
theorem dL_leafOf_22 : decode cL_leafOf 22 = .ok (.iconst 2, 1) := dz_5 (kin0 (p := 22) kRcL_leafOf_eq rfl)
theorem dL_leafOf_23 : decode cL_leafOf 23 = .ok (.ireturn, 1) := dz_172 (kin0 (p := 23) kRcL_leafOf_eq rfl)
theorem dL_leafOf_24 : decode cL_leafOf 24 = .ok (.iconst 0, 1) := dz_3 (kin0 (p := 24) kRcL_leafOf_eq rfl)
theorem dL_leafOf_25 : decode cL_leafOf 25 = .ok (.ireturn, 1) := dz_172 (kin0 (p := 25) kRcL_leafOf_eq rfl)
def kCcL_leafOfRound_0 : List Nat := [25, 4, 42, 27, 28, 29, 182, 0, 53, 133, 181, 0, 13, 167, 0, 7, 58, 5, 4, 172, 3, 172]
theorem kRcL_leafOfRound_eq : cL_leafOfRound.data.toList.map UInt8.toNat = kCcL_leafOfRound_0 := by decide +kernel
theorem dL_leafOfRound_0 : decode cL_leafOfRound 0 = .ok (.aload 4, 2) := dz_25 (kin0 (p := 0) kRcL_leafOfRound_eq rfl) (kin0 (p := 1) kRcL_leafOfRound_eq rfl)
theorem dL_leafOfRound_2 : decode cL_leafOfRound 2 = .ok (.aload_n 0, 1) := dz_42 (kin0 (p := 2) kRcL_leafOfRound_eq rfl)
theorem dL_leafOfRound_3 : decode cL_leafOfRound 3 = .ok (.iload_n 1, 1) := dz_27 (kin0 (p := 3) kRcL_leafOfRound_eq rfl)
theorem dL_leafOfRound_4 : decode cL_leafOfRound 4 = .ok (.iload_n 2, 1) := dz_28 (kin0 (p := 4) kRcL_leafOfRound_eq rfl)
theorem dL_leafOfRound_5 : decode cL_leafOfRound 5 = .ok (.iload_n 3, 1) := dz_29 (kin0 (p := 5) kRcL_leafOfRound_eq rfl)
theorem dL_leafOfRound_6 : decode cL_leafOfRound 6 = .ok (.invokevirtual 53, 3) := dz_182 (kin0 (p := 6) kRcL_leafOfRound_eq rfl) (kin0 (p := 7) kRcL_leafOfRound_eq rfl) (kin0 (p := 8) kRcL_leafOfRound_eq rfl) rfl
theorem dL_leafOfRound_9 : decode cL_leafOfRound 9 = .ok (.i2l, 1) := dz_133 (kin0 (p := 9) kRcL_leafOfRound_eq rfl)
theorem dL_leafOfRound_10 : decode cL_leafOfRound 10 = .ok (.putfield 13, 3) := dz_181 (kin0 (p := 10) kRcL_leafOfRound_eq rfl) (kin0 (p := 11) kRcL_leafOfRound_eq rfl) (kin0 (p := 12) kRcL_leafOfRound_eq rfl) rfl
theorem dL_leafOfRound_13 : decode cL_leafOfRound 13 = .ok (.goto 7, 3) := dz_167 (kin0 (p := 13) kRcL_leafOfRound_eq rfl) (kin0 (p := 14) kRcL_leafOfRound_eq rfl) (kin0 (p := 15) kRcL_leafOfRound_eq rfl) rfl
theorem dL_leafOfRound_16 : decode cL_leafOfRound 16 = .ok (.astore 5, 2) := dz_58 (kin0 (p := 16) kRcL_leafOfRound_eq rfl) (kin0 (p := 17) kRcL_leafOfRound_eq rfl)
theorem dL_leafOfRound_18 : decode cL_leafOfRound 18 = .ok (.iconst 1, 1) := dz_4 (kin0 (p := 18) kRcL_leafOfRound_eq rfl)
theorem dL_leafOfRound_19 : decode cL_leafOfRound 19 = .ok (.ireturn, 1) := dz_172 (kin0 (p := 19) kRcL_leafOfRound_eq rfl)
theorem dL_leafOfRound_20 : decode cL_leafOfRound 20 = .ok (.iconst 0, 1) := dz_3 (kin0 (p := 20) kRcL_leafOfRound_eq rfl)
theorem dL_leafOfRound_21 : decode cL_leafOfRound 21 = .ok (.ireturn, 1) := dz_172 (kin0 (p := 21) kRcL_leafOfRound_eq rfl)
def kCcL_leafOfDay_0 : List Nat := [45, 42, 27, 28, 182, 0, 56, 133, 181, 0, 13, 167, 0, 7, 58, 4, 4, 172, 3, 172]
theorem kRcL_leafOfDay_eq : cL_leafOfDay.data.toList.map UInt8.toNat = kCcL_leafOfDay_0 := by decide +kernel
theorem dL_leafOfDay_0 : decode cL_leafOfDay 0 = .ok (.aload_n 3, 1) := dz_45 (kin0 (p := 0) kRcL_leafOfDay_eq rfl)
theorem dL_leafOfDay_1 : decode cL_leafOfDay 1 = .ok (.aload_n 0, 1) := dz_42 (kin0 (p := 1) kRcL_leafOfDay_eq rfl)
theorem dL_leafOfDay_2 : decode cL_leafOfDay 2 = .ok (.iload_n 1, 1) := dz_27 (kin0 (p := 2) kRcL_leafOfDay_eq rfl)
theorem dL_leafOfDay_3 : decode cL_leafOfDay 3 = .ok (.iload_n 2, 1) := dz_28 (kin0 (p := 3) kRcL_leafOfDay_eq rfl)
theorem dL_leafOfDay_4 : decode cL_leafOfDay 4 = .ok (.invokevirtual 56, 3) := dz_182 (kin0 (p := 4) kRcL_leafOfDay_eq rfl) (kin0 (p := 5) kRcL_leafOfDay_eq rfl) (kin0 (p := 6) kRcL_leafOfDay_eq rfl) rfl
theorem dL_leafOfDay_7 : decode cL_leafOfDay 7 = .ok (.i2l, 1) := dz_133 (kin0 (p := 7) kRcL_leafOfDay_eq rfl)
theorem dL_leafOfDay_8 : decode cL_leafOfDay 8 = .ok (.putfield 13, 3) := dz_181 (kin0 (p := 8) kRcL_leafOfDay_eq rfl) (kin0 (p := 9) kRcL_leafOfDay_eq rfl) (kin0 (p := 10) kRcL_leafOfDay_eq rfl) rfl
theorem dL_leafOfDay_11 : decode cL_leafOfDay 11 = .ok (.goto 7, 3) := dz_167 (kin0 (p := 11) kRcL_leafOfDay_eq rfl) (kin0 (p := 12) kRcL_leafOfDay_eq rfl) (kin0 (p := 13) kRcL_leafOfDay_eq rfl) rfl
theorem dL_leafOfDay_14 : decode cL_leafOfDay 14 = .ok (.astore 4, 2) := dz_58 (kin0 (p := 14) kRcL_leafOfDay_eq rfl) (kin0 (p := 15) kRcL_leafOfDay_eq rfl)
theorem dL_leafOfDay_16 : decode cL_leafOfDay 16 = .ok (.iconst 1, 1) := dz_4 (kin0 (p := 16) kRcL_leafOfDay_eq rfl)
theorem dL_leafOfDay_17 : decode cL_leafOfDay 17 = .ok (.ireturn, 1) := dz_172 (kin0 (p := 17) kRcL_leafOfDay_eq rfl)
theorem dL_leafOfDay_18 : decode cL_leafOfDay 18 = .ok (.iconst 0, 1) := dz_3 (kin0 (p := 18) kRcL_leafOfDay_eq rfl)
theorem dL_leafOfDay_19 : decode cL_leafOfDay 19 = .ok (.ireturn, 1) := dz_172 (kin0 (p := 19) kRcL_leafOfDay_eq rfl)
def kCcL_leafLike_0 : List Nat := [45, 42, 27, 28, 182, 0, 59, 133, 181, 0, 13, 167, 0, 7, 58, 4, 4, 172, 3, 172]
theorem kRcL_leafLike_eq : cL_leafLike.data.toList.map UInt8.toNat = kCcL_leafLike_0 := by decide +kernel
theorem dL_leafLike_0 : decode cL_leafLike 0 = .ok (.aload_n 3, 1) := dz_45 (kin0 (p := 0) kRcL_leafLike_eq rfl)
theorem dL_leafLike_1 : decode cL_leafLike 1 = .ok (.aload_n 0, 1) := dz_42 (kin0 (p := 1) kRcL_leafLike_eq rfl)
theorem dL_leafLike_2 : decode cL_leafLike 2 = .ok (.iload_n 1, 1) := dz_27 (kin0 (p := 2) kRcL_leafLike_eq rfl)
theorem dL_leafLike_3 : decode cL_leafLike 3 = .ok (.iload_n 2, 1) := dz_28 (kin0 (p := 3) kRcL_leafLike_eq rfl)
theorem dL_leafLike_4 : decode cL_leafLike 4 = .ok (.invokevirtual 59, 3) := dz_182 (kin0 (p := 4) kRcL_leafLike_eq rfl) (kin0 (p := 5) kRcL_leafLike_eq rfl) (kin0 (p := 6) kRcL_leafLike_eq rfl) rfl
theorem dL_leafLike_7 : decode cL_leafLike 7 = .ok (.i2l, 1) := dz_133 (kin0 (p := 7) kRcL_leafLike_eq rfl)
theorem dL_leafLike_8 : decode cL_leafLike 8 = .ok (.putfield 13, 3) := dz_181 (kin0 (p := 8) kRcL_leafLike_eq rfl) (kin0 (p := 9) kRcL_leafLike_eq rfl) (kin0 (p := 10) kRcL_leafLike_eq rfl) rfl
theorem dL_leafLike_11 : decode cL_leafLike 11 = .ok (.goto 7, 3) := dz_167 (kin0 (p := 11) kRcL_leafLike_eq rfl) (kin0 (p := 12) kRcL_leafLike_eq rfl) (kin0 (p := 13) kRcL_leafLike_eq rfl) rfl
theorem dL_leafLike_14 : decode cL_leafLike 14 = .ok (.astore 4, 2) := dz_58 (kin0 (p := 14) kRcL_leafLike_eq rfl) (kin0 (p := 15) kRcL_leafLike_eq rfl)
theorem dL_leafLike_16 : decode cL_leafLike 16 = .ok (.iconst 1, 1) := dz_4 (kin0 (p := 16) kRcL_leafLike_eq rfl)
theorem dL_leafLike_17 : decode cL_leafLike 17 = .ok (.ireturn, 1) := dz_172 (kin0 (p := 17) kRcL_leafLike_eq rfl)
theorem dL_leafLike_18 : decode cL_leafLike 18 = .ok (.iconst 0, 1) := dz_3 (kin0 (p := 18) kRcL_leafLike_eq rfl)
theorem dL_leafLike_19 : decode cL_leafLike 19 = .ok (.ireturn, 1) := dz_172 (kin0 (p := 19) kRcL_leafLike_eq rfl)
def kCcL_year_0 : List Nat := [45, 42, 27, 28, 182, 0, 62, 133, 181, 0, 13, 167, 0, 11, 58, 4, 4, 172, 58, 4, 5, 172, 3, 172]
theorem kRcL_year_eq : cL_year.data.toList.map UInt8.toNat = kCcL_year_0 := by decide +kernel
theorem dL_year_0 : decode cL_year 0 = .ok (.aload_n 3, 1) := dz_45 (kin0 (p := 0) kRcL_year_eq rfl)
theorem dL_year_1 : decode cL_year 1 = .ok (.aload_n 0, 1) := dz_42 (kin0 (p := 1) kRcL_year_eq rfl)
theorem dL_year_2 : decode cL_year 2 = .ok (.iload_n 1, 1) := dz_27 (kin0 (p := 2) kRcL_year_eq rfl)
theorem dL_year_3 : decode cL_year 3 = .ok (.iload_n 2, 1) := dz_28 (kin0 (p := 3) kRcL_year_eq rfl)
theorem dL_year_4 : decode cL_year 4 = .ok (.invokevirtual 62, 3) := dz_182 (kin0 (p := 4) kRcL_year_eq rfl) (kin0 (p := 5) kRcL_year_eq rfl) (kin0 (p := 6) kRcL_year_eq rfl) rfl
theorem dL_year_7 : decode cL_year 7 = .ok (.i2l, 1) := dz_133 (kin0 (p := 7) kRcL_year_eq rfl)
theorem dL_year_8 : decode cL_year 8 = .ok (.putfield 13, 3) := dz_181 (kin0 (p := 8) kRcL_year_eq rfl) (kin0 (p := 9) kRcL_year_eq rfl) (kin0 (p := 10) kRcL_year_eq rfl) rfl
theorem dL_year_11 : decode cL_year 11 = .ok (.goto 11, 3) := dz_167 (kin0 (p := 11) kRcL_year_eq rfl) (kin0 (p := 12) kRcL_year_eq rfl) (kin0 (p := 13) kRcL_year_eq rfl) rfl
theorem dL_year_14 : decode cL_year 14 = .ok (.astore 4, 2) := dz_58 (kin0 (p := 14) kRcL_year_eq rfl) (kin0 (p := 15) kRcL_year_eq rfl)
theorem dL_year_16 : decode cL_year 16 = .ok (.iconst 1, 1) := dz_4 (kin0 (p := 16) kRcL_year_eq rfl)
theorem dL_year_17 : decode cL_year 17 = .ok (.ireturn, 1) := dz_172 (kin0 (p := 17) kRcL_year_eq rfl)
theorem dL_year_18 : decode cL_year 18 = .ok (.astore 4, 2) := dz_58 (kin0 (p := 18) kRcL_year_eq rfl) (kin0 (p := 19) kRcL_year_eq rfl)
theorem dL_year_20 : decode cL_year 20 = .ok (.iconst 2, 1) := dz_5 (kin0 (p := 20) kRcL_year_eq rfl)
theorem dL_year_21 : decode cL_year 21 = .ok (.ireturn, 1) := dz_172 (kin0 (p := 21) kRcL_year_eq rfl)
theorem dL_year_22 : decode cL_year 22 = .ok (.iconst 0, 1) := dz_3 (kin0 (p := 22) kRcL_year_eq rfl)
theorem dL_year_23 : decode cL_year 23 = .ok (.ireturn, 1) := dz_172 (kin0 (p := 23) kRcL_year_eq rfl)
