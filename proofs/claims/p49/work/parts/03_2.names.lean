def kCcX1_edge_0 : List Nat := [27, 153, 0, 8, 18, 195, 167, 0, 5, 18, 196, 172]
theorem kRcX1_edge_eq : cX1_edge.data.toList.map UInt8.toNat = kCcX1_edge_0 := by decide +kernel
theorem dX1_edge_0 : decode cX1_edge 0 = .ok (.iload_n 1, 1) := dz_27 (kin0 (p := 0) kRcX1_edge_eq rfl)
theorem dX1_edge_1 : decode cX1_edge 1 = .ok (.ifCond .eq 8, 3) := dz_153 (kin0 (p := 1) kRcX1_edge_eq rfl) (kin0 (p := 2) kRcX1_edge_eq rfl) (kin0 (p := 3) kRcX1_edge_eq rfl) rfl
theorem dX1_edge_4 : decode cX1_edge 4 = .ok (.ldc 195, 2) := dz_18 (kin0 (p := 4) kRcX1_edge_eq rfl) (kin0 (p := 5) kRcX1_edge_eq rfl)
theorem dX1_edge_6 : decode cX1_edge 6 = .ok (.goto 5, 3) := dz_167 (kin0 (p := 6) kRcX1_edge_eq rfl) (kin0 (p := 7) kRcX1_edge_eq rfl) (kin0 (p := 8) kRcX1_edge_eq rfl) rfl
theorem dX1_edge_9 : decode cX1_edge 9 = .ok (.ldc 196, 2) := dz_18 (kin0 (p := 9) kRcX1_edge_eq rfl) (kin0 (p := 10) kRcX1_edge_eq rfl)
theorem dX1_edge_11 : decode cX1_edge 11 = .ok (.ireturn, 1) := dz_172 (kin0 (p := 11) kRcX1_edge_eq rfl)
def kCcX1_knock_0 : List Nat := [42, 89, 180, 0, 36, 4, 96, 181, 0, 36, 42, 180, 0, 36, 172]
theorem kRcX1_knock_eq : cX1_knock.data.toList.map UInt8.toNat = kCcX1_knock_0 := by decide +kernel
theorem dX1_knock_0 : decode cX1_knock 0 = .ok (.aload_n 0, 1) := dz_42 (kin0 (p := 0) kRcX1_knock_eq rfl)
theorem dX1_knock_1 : decode cX1_knock 1 = .ok (.dup, 1) := dz_89 (kin0 (p := 1) kRcX1_knock_eq rfl)
theorem dX1_knock_2 : decode cX1_knock 2 = .ok (.getfield 36, 3) := dz_180 (kin0 (p := 2) kRcX1_knock_eq rfl) (kin0 (p := 3) kRcX1_knock_eq rfl) (kin0 (p := 4) kRcX1_knock_eq rfl) rfl
theorem dX1_knock_5 : decode cX1_knock 5 = .ok (.iconst 1, 1) := dz_4 (kin0 (p := 5) kRcX1_knock_eq rfl)
theorem dX1_knock_6 : decode cX1_knock 6 = .ok (.iadd, 1) := dz_96 (kin0 (p := 6) kRcX1_knock_eq rfl)
theorem dX1_knock_7 : decode cX1_knock 7 = .ok (.putfield 36, 3) := dz_181 (kin0 (p := 7) kRcX1_knock_eq rfl) (kin0 (p := 8) kRcX1_knock_eq rfl) (kin0 (p := 9) kRcX1_knock_eq rfl) rfl
theorem dX1_knock_10 : decode cX1_knock 10 = .ok (.aload_n 0, 1) := dz_42 (kin0 (p := 10) kRcX1_knock_eq rfl)
theorem dX1_knock_11 : decode cX1_knock 11 = .ok (.getfield 36, 3) := dz_180 (kin0 (p := 11) kRcX1_knock_eq rfl) (kin0 (p := 12) kRcX1_knock_eq rfl) (kin0 (p := 13) kRcX1_knock_eq rfl) rfl
theorem dX1_knock_14 : decode cX1_knock 14 = .ok (.ireturn, 1) := dz_172 (kin0 (p := 14) kRcX1_knock_eq rfl)
def kCcX1_house_0 : List Nat := [27, 3, 7, 184, 0, 71, 27, 7, 160, 0, 8, 42, 180, 0, 36, 172, 3, 61, 3, 62, 29, 7, 162, 0, 21, 28, 42, 29, 27, 182, 0, 197]
def kCcX1_house_1 : List Nat := [184, 0, 92, 96, 61, 132, 3, 1, 167, 255, 236, 28, 172]
def kRcX1_house_2 : List Nat := []
def kRcX1_house_1 : List Nat := kCcX1_house_1 ++ kRcX1_house_2
def kRcX1_house_0 : List Nat := kCcX1_house_0 ++ kRcX1_house_1
theorem kRcX1_house_eq : cX1_house.data.toList.map UInt8.toNat = kRcX1_house_0 := by decide +kernel
theorem katcX1_house_0 (i : Nat) : (cX1_house.data.toList.map UInt8.toNat)[0 + i]? = kRcX1_house_0[i]? := by rw [kRcX1_house_eq, Nat.zero_add]
theorem katcX1_house_1 : ∀ i : Nat, (cX1_house.data.toList.map UInt8.toNat)[32 + i]? = kRcX1_house_1[i]? := kstep katcX1_house_0 (C := kCcX1_house_0) rfl rfl
theorem kBcX1_house_0 {b : Nat} (p : Nat) (hp : Nat.ble 0 p = true) (h : kCcX1_house_0[p - 0]? = some b) : kb cX1_house p b := kin katcX1_house_0 rfl hp h
theorem kBcX1_house_1 {b : Nat} (p : Nat) (hp : Nat.ble 32 p = true) (h : kCcX1_house_1[p - 32]? = some b) : kb cX1_house p b := kin katcX1_house_1 rfl hp h
theorem dX1_house_0 : decode cX1_house 0 = .ok (.iload_n 1, 1) := dz_27 (kBcX1_house_0 0 rfl rfl)
theorem dX1_house_1 : decode cX1_house 1 = .ok (.iconst 0, 1) := dz_3 (kBcX1_house_0 1 rfl rfl)
theorem dX1_house_2 : decode cX1_house 2 = .ok (.iconst 4, 1) := dz_7 (kBcX1_house_0 2 rfl rfl)
theorem dX1_house_3 : decode cX1_house 3 = .ok (.invokestatic 71, 3) := dz_184 (kBcX1_house_0 3 rfl rfl) (kBcX1_house_0 4 rfl rfl) (kBcX1_house_0 5 rfl rfl) rfl
theorem dX1_house_6 : decode cX1_house 6 = .ok (.iload_n 1, 1) := dz_27 (kBcX1_house_0 6 rfl rfl)
theorem dX1_house_7 : decode cX1_house 7 = .ok (.iconst 4, 1) := dz_7 (kBcX1_house_0 7 rfl rfl)
theorem dX1_house_8 : decode cX1_house 8 = .ok (.if_icmp .ne 8, 3) := dz_160 (kBcX1_house_0 8 rfl rfl) (kBcX1_house_0 9 rfl rfl) (kBcX1_house_0 10 rfl rfl) rfl
theorem dX1_house_11 : decode cX1_house 11 = .ok (.aload_n 0, 1) := dz_42 (kBcX1_house_0 11 rfl rfl)
theorem dX1_house_12 : decode cX1_house 12 = .ok (.getfield 36, 3) := dz_180 (kBcX1_house_0 12 rfl rfl) (kBcX1_house_0 13 rfl rfl) (kBcX1_house_0 14 rfl rfl) rfl
theorem dX1_house_15 : decode cX1_house 15 = .ok (.ireturn, 1) := dz_172 (kBcX1_house_0 15 rfl rfl)
theorem dX1_house_16 : decode cX1_house 16 = .ok (.iconst 0, 1) := dz_3 (kBcX1_house_0 16 rfl rfl)
theorem dX1_house_17 : decode cX1_house 17 = .ok (.istore_n 2, 1) := dz_61 (kBcX1_house_0 17 rfl rfl)
theorem dX1_house_18 : decode cX1_house 18 = .ok (.iconst 0, 1) := dz_3 (kBcX1_house_0 18 rfl rfl)
theorem dX1_house_19 : decode cX1_house 19 = .ok (.istore_n 3, 1) := dz_62 (kBcX1_house_0 19 rfl rfl)
theorem dX1_house_20 : decode cX1_house 20 = .ok (.iload_n 3, 1) := dz_29 (kBcX1_house_0 20 rfl rfl)
theorem dX1_house_21 : decode cX1_house 21 = .ok (.iconst 4, 1) := dz_7 (kBcX1_house_0 21 rfl rfl)
theorem dX1_house_22 : decode cX1_house 22 = .ok (.if_icmp .ge 21, 3) := dz_162 (kBcX1_house_0 22 rfl rfl) (kBcX1_house_0 23 rfl rfl) (kBcX1_house_0 24 rfl rfl) rfl
theorem dX1_house_25 : decode cX1_house 25 = .ok (.iload_n 2, 1) := dz_28 (kBcX1_house_0 25 rfl rfl)
theorem dX1_house_26 : decode cX1_house 26 = .ok (.aload_n 0, 1) := dz_42 (kBcX1_house_0 26 rfl rfl)
theorem dX1_house_27 : decode cX1_house 27 = .ok (.iload_n 3, 1) := dz_29 (kBcX1_house_0 27 rfl rfl)
theorem dX1_house_28 : decode cX1_house 28 = .ok (.iload_n 1, 1) := dz_27 (kBcX1_house_0 28 rfl rfl)
theorem dX1_house_29 : decode cX1_house 29 = .ok (.invokevirtual 197, 3) := dz_182 (kBcX1_house_0 29 rfl rfl) (kBcX1_house_0 30 rfl rfl) (kBcX1_house_0 31 rfl rfl) rfl
theorem dX1_house_32 : decode cX1_house 32 = .ok (.invokestatic 92, 3) := dz_184 (kBcX1_house_1 32 rfl rfl) (kBcX1_house_1 33 rfl rfl) (kBcX1_house_1 34 rfl rfl) rfl
theorem dX1_house_35 : decode cX1_house 35 = .ok (.iadd, 1) := dz_96 (kBcX1_house_1 35 rfl rfl)
theorem dX1_house_36 : decode cX1_house 36 = .ok (.istore_n 2, 1) := dz_61 (kBcX1_house_1 36 rfl rfl)
theorem dX1_house_37 : decode cX1_house 37 = .ok (.iinc 3 1, 3) := dz_132 (kBcX1_house_1 37 rfl rfl) (kBcX1_house_1 38 rfl rfl) (kBcX1_house_1 39 rfl rfl) rfl
theorem dX1_house_40 : decode cX1_house 40 = .ok (.goto (-20), 3) := dz_167 (kBcX1_house_1 40 rfl rfl) (kBcX1_house_1 41 rfl rfl) (kBcX1_house_1 42 rfl rfl) rfl
theorem dX1_house_43 : decode cX1_house 43 = .ok (.iload_n 2, 1) := dz_28 (kBcX1_house_1 43 rfl rfl)
theorem dX1_house_44 : decode cX1_house 44 = .ok (.ireturn, 1) := dz_172 (kBcX1_house_1 44 rfl rfl)
def kCcX1_isSound_0 : List Nat := [3, 60, 27, 7, 162, 0, 73, 42, 180, 0, 9, 27, 47, 184, 0, 200, 153, 0, 15, 42, 180, 0, 13, 27, 46, 184, 0, 203, 154, 0, 5, 3]
def kCcX1_isSound_1 : List Nat := [172, 3, 61, 28, 7, 162, 0, 34, 42, 27, 28, 182, 0, 206, 153, 0, 17, 42, 27, 42, 180, 0, 13, 28, 46, 182, 0, 209, 154, 0, 5, 3]
def kCcX1_isSound_2 : List Nat := [172, 132, 2, 1, 167, 255, 223, 132, 1, 1, 167, 255, 184, 4, 172]
def kRcX1_isSound_3 : List Nat := []
def kRcX1_isSound_2 : List Nat := kCcX1_isSound_2 ++ kRcX1_isSound_3
def kRcX1_isSound_1 : List Nat := kCcX1_isSound_1 ++ kRcX1_isSound_2
def kRcX1_isSound_0 : List Nat := kCcX1_isSound_0 ++ kRcX1_isSound_1
theorem kRcX1_isSound_eq : cX1_isSound.data.toList.map UInt8.toNat = kRcX1_isSound_0 := by decide +kernel
theorem katcX1_isSound_0 (i : Nat) : (cX1_isSound.data.toList.map UInt8.toNat)[0 + i]? = kRcX1_isSound_0[i]? := by rw [kRcX1_isSound_eq, Nat.zero_add]
theorem katcX1_isSound_1 : ∀ i : Nat, (cX1_isSound.data.toList.map UInt8.toNat)[32 + i]? = kRcX1_isSound_1[i]? := kstep katcX1_isSound_0 (C := kCcX1_isSound_0) rfl rfl
theorem katcX1_isSound_2 : ∀ i : Nat, (cX1_isSound.data.toList.map UInt8.toNat)[64 + i]? = kRcX1_isSound_2[i]? := kstep katcX1_isSound_1 (C := kCcX1_isSound_1) rfl rfl
theorem kBcX1_isSound_0 {b : Nat} (p : Nat) (hp : Nat.ble 0 p = true) (h : kCcX1_isSound_0[p - 0]? = some b) : kb cX1_isSound p b := kin katcX1_isSound_0 rfl hp h
theorem kBcX1_isSound_1 {b : Nat} (p : Nat) (hp : Nat.ble 32 p = true) (h : kCcX1_isSound_1[p - 32]? = some b) : kb cX1_isSound p b := kin katcX1_isSound_1 rfl hp h
theorem kBcX1_isSound_2 {b : Nat} (p : Nat) (hp : Nat.ble 64 p = true) (h : kCcX1_isSound_2[p - 64]? = some b) : kb cX1_isSound p b := kin katcX1_isSound_2 rfl hp h
theorem dX1_isSound_0 : decode cX1_isSound 0 = .ok (.iconst 0, 1) := dz_3 (kBcX1_isSound_0 0 rfl rfl)
theorem dX1_isSound_1 : decode cX1_isSound 1 = .ok (.istore_n 1, 1) := dz_60 (kBcX1_isSound_0 1 rfl rfl)
theorem dX1_isSound_2 : decode cX1_isSound 2 = .ok (.iload_n 1, 1) := dz_27 (kBcX1_isSound_0 2 rfl rfl)
theorem dX1_isSound_3 : decode cX1_isSound 3 = .ok (.iconst 4, 1) := dz_7 (kBcX1_isSound_0 3 rfl rfl)
theorem dX1_isSound_4 : decode cX1_isSound 4 = .ok (.if_icmp .ge 73, 3) := dz_162 (kBcX1_isSound_0 4 rfl rfl) (kBcX1_isSound_0 5 rfl rfl) (kBcX1_isSound_0 6 rfl rfl) rfl
theorem dX1_isSound_7 : decode cX1_isSound 7 = .ok (.aload_n 0, 1) := dz_42 (kBcX1_isSound_0 7 rfl rfl)
theorem dX1_isSound_8 : decode cX1_isSound 8 = .ok (.getfield 9, 3) := dz_180 (kBcX1_isSound_0 8 rfl rfl) (kBcX1_isSound_0 9 rfl rfl) (kBcX1_isSound_0 10 rfl rfl) rfl
theorem dX1_isSound_11 : decode cX1_isSound 11 = .ok (.iload_n 1, 1) := dz_27 (kBcX1_isSound_0 11 rfl rfl)
theorem dX1_isSound_12 : decode cX1_isSound 12 = .ok (.laload, 1) := dz_47 (kBcX1_isSound_0 12 rfl rfl)
theorem dX1_isSound_13 : decode cX1_isSound 13 = .ok (.invokestatic 200, 3) := dz_184 (kBcX1_isSound_0 13 rfl rfl) (kBcX1_isSound_0 14 rfl rfl) (kBcX1_isSound_0 15 rfl rfl) rfl
theorem dX1_isSound_16 : decode cX1_isSound 16 = .ok (.ifCond .eq 15, 3) := dz_153 (kBcX1_isSound_0 16 rfl rfl) (kBcX1_isSound_0 17 rfl rfl) (kBcX1_isSound_0 18 rfl rfl) rfl
theorem dX1_isSound_19 : decode cX1_isSound 19 = .ok (.aload_n 0, 1) := dz_42 (kBcX1_isSound_0 19 rfl rfl)
theorem dX1_isSound_20 : decode cX1_isSound 20 = .ok (.getfield 13, 3) := dz_180 (kBcX1_isSound_0 20 rfl rfl) (kBcX1_isSound_0 21 rfl rfl) (kBcX1_isSound_0 22 rfl rfl) rfl
theorem dX1_isSound_23 : decode cX1_isSound 23 = .ok (.iload_n 1, 1) := dz_27 (kBcX1_isSound_0 23 rfl rfl)
theorem dX1_isSound_24 : decode cX1_isSound 24 = .ok (.iaload, 1) := dz_46 (kBcX1_isSound_0 24 rfl rfl)
theorem dX1_isSound_25 : decode cX1_isSound 25 = .ok (.invokestatic 203, 3) := dz_184 (kBcX1_isSound_0 25 rfl rfl) (kBcX1_isSound_0 26 rfl rfl) (kBcX1_isSound_0 27 rfl rfl) rfl
theorem dX1_isSound_28 : decode cX1_isSound 28 = .ok (.ifCond .ne 5, 3) := dz_154 (kBcX1_isSound_0 28 rfl rfl) (kBcX1_isSound_0 29 rfl rfl) (kBcX1_isSound_0 30 rfl rfl) rfl
theorem dX1_isSound_31 : decode cX1_isSound 31 = .ok (.iconst 0, 1) := dz_3 (kBcX1_isSound_0 31 rfl rfl)
theorem dX1_isSound_32 : decode cX1_isSound 32 = .ok (.ireturn, 1) := dz_172 (kBcX1_isSound_1 32 rfl rfl)
theorem dX1_isSound_33 : decode cX1_isSound 33 = .ok (.iconst 0, 1) := dz_3 (kBcX1_isSound_1 33 rfl rfl)
theorem dX1_isSound_34 : decode cX1_isSound 34 = .ok (.istore_n 2, 1) := dz_61 (kBcX1_isSound_1 34 rfl rfl)
theorem dX1_isSound_35 : decode cX1_isSound 35 = .ok (.iload_n 2, 1) := dz_28 (kBcX1_isSound_1 35 rfl rfl)
theorem dX1_isSound_36 : decode cX1_isSound 36 = .ok (.iconst 4, 1) := dz_7 (kBcX1_isSound_1 36 rfl rfl)
theorem dX1_isSound_37 : decode cX1_isSound 37 = .ok (.if_icmp .ge 34, 3) := dz_162 (kBcX1_isSound_1 37 rfl rfl) (kBcX1_isSound_1 38 rfl rfl) (kBcX1_isSound_1 39 rfl rfl) rfl
theorem dX1_isSound_40 : decode cX1_isSound 40 = .ok (.aload_n 0, 1) := dz_42 (kBcX1_isSound_1 40 rfl rfl)
theorem dX1_isSound_41 : decode cX1_isSound 41 = .ok (.iload_n 1, 1) := dz_27 (kBcX1_isSound_1 41 rfl rfl)
theorem dX1_isSound_42 : decode cX1_isSound 42 = .ok (.iload_n 2, 1) := dz_28 (kBcX1_isSound_1 42 rfl rfl)
theorem dX1_isSound_43 : decode cX1_isSound 43 = .ok (.invokevirtual 206, 3) := dz_182 (kBcX1_isSound_1 43 rfl rfl) (kBcX1_isSound_1 44 rfl rfl) (kBcX1_isSound_1 45 rfl rfl) rfl
theorem dX1_isSound_46 : decode cX1_isSound 46 = .ok (.ifCond .eq 17, 3) := dz_153 (kBcX1_isSound_1 46 rfl rfl) (kBcX1_isSound_1 47 rfl rfl) (kBcX1_isSound_1 48 rfl rfl) rfl
theorem dX1_isSound_49 : decode cX1_isSound 49 = .ok (.aload_n 0, 1) := dz_42 (kBcX1_isSound_1 49 rfl rfl)
theorem dX1_isSound_50 : decode cX1_isSound 50 = .ok (.iload_n 1, 1) := dz_27 (kBcX1_isSound_1 50 rfl rfl)
theorem dX1_isSound_51 : decode cX1_isSound 51 = .ok (.aload_n 0, 1) := dz_42 (kBcX1_isSound_1 51 rfl rfl)
theorem dX1_isSound_52 : decode cX1_isSound 52 = .ok (.getfield 13, 3) := dz_180 (kBcX1_isSound_1 52 rfl rfl) (kBcX1_isSound_1 53 rfl rfl) (kBcX1_isSound_1 54 rfl rfl) rfl
theorem dX1_isSound_55 : decode cX1_isSound 55 = .ok (.iload_n 2, 1) := dz_28 (kBcX1_isSound_1 55 rfl rfl)
theorem dX1_isSound_56 : decode cX1_isSound 56 = .ok (.iaload, 1) := dz_46 (kBcX1_isSound_1 56 rfl rfl)
theorem dX1_isSound_57 : decode cX1_isSound 57 = .ok (.invokevirtual 209, 3) := dz_182 (kBcX1_isSound_1 57 rfl rfl) (kBcX1_isSound_1 58 rfl rfl) (kBcX1_isSound_1 59 rfl rfl) rfl
theorem dX1_isSound_60 : decode cX1_isSound 60 = .ok (.ifCond .ne 5, 3) := dz_154 (kBcX1_isSound_1 60 rfl rfl) (kBcX1_isSound_1 61 rfl rfl) (kBcX1_isSound_1 62 rfl rfl) rfl
theorem dX1_isSound_63 : decode cX1_isSound 63 = .ok (.iconst 0, 1) := dz_3 (kBcX1_isSound_1 63 rfl rfl)
theorem dX1_isSound_64 : decode cX1_isSound 64 = .ok (.ireturn, 1) := dz_172 (kBcX1_isSound_2 64 rfl rfl)
theorem dX1_isSound_65 : decode cX1_isSound 65 = .ok (.iinc 2 1, 3) := dz_132 (kBcX1_isSound_2 65 rfl rfl) (kBcX1_isSound_2 66 rfl rfl) (kBcX1_isSound_2 67 rfl rfl) rfl
theorem dX1_isSound_68 : decode cX1_isSound 68 = .ok (.goto (-33), 3) := dz_167 (kBcX1_isSound_2 68 rfl rfl) (kBcX1_isSound_2 69 rfl rfl) (kBcX1_isSound_2 70 rfl rfl) rfl
theorem dX1_isSound_71 : decode cX1_isSound 71 = .ok (.iinc 1 1, 3) := dz_132 (kBcX1_isSound_2 71 rfl rfl) (kBcX1_isSound_2 72 rfl rfl) (kBcX1_isSound_2 73 rfl rfl) rfl
theorem dX1_isSound_74 : decode cX1_isSound 74 = .ok (.goto (-72), 3) := dz_167 (kBcX1_isSound_2 74 rfl rfl) (kBcX1_isSound_2 75 rfl rfl) (kBcX1_isSound_2 76 rfl rfl) rfl
theorem dX1_isSound_77 : decode cX1_isSound 77 = .ok (.iconst 1, 1) := dz_4 (kBcX1_isSound_2 77 rfl rfl)
theorem dX1_isSound_78 : decode cX1_isSound 78 = .ok (.ireturn, 1) := dz_172 (kBcX1_isSound_2 78 rfl rfl)
def kCcX1_digest_0 : List Nat := [42, 20, 0, 212, 182, 0, 214, 64, 42, 31, 182, 0, 218, 64, 42, 31, 182, 0, 221, 64, 42, 31, 182, 0, 224, 64, 42, 31, 182, 0, 227, 64]
def kCcX1_digest_1 : List Nat := [42, 31, 182, 0, 230, 64, 3, 62, 29, 7, 163, 0, 22, 31, 20, 0, 233, 105, 42, 29, 182, 0, 235, 133, 97, 64, 132, 3, 1, 167, 255, 235]
def kCcX1_digest_2 : List Nat := [31, 20, 0, 233, 105, 42, 182, 0, 238, 184, 0, 92, 133, 97, 173]
def kRcX1_digest_3 : List Nat := []
def kRcX1_digest_2 : List Nat := kCcX1_digest_2 ++ kRcX1_digest_3
def kRcX1_digest_1 : List Nat := kCcX1_digest_1 ++ kRcX1_digest_2
def kRcX1_digest_0 : List Nat := kCcX1_digest_0 ++ kRcX1_digest_1
theorem kRcX1_digest_eq : cX1_digest.data.toList.map UInt8.toNat = kRcX1_digest_0 := by decide +kernel
theorem katcX1_digest_0 (i : Nat) : (cX1_digest.data.toList.map UInt8.toNat)[0 + i]? = kRcX1_digest_0[i]? := by rw [kRcX1_digest_eq, Nat.zero_add]
theorem katcX1_digest_1 : ∀ i : Nat, (cX1_digest.data.toList.map UInt8.toNat)[32 + i]? = kRcX1_digest_1[i]? := kstep katcX1_digest_0 (C := kCcX1_digest_0) rfl rfl
theorem katcX1_digest_2 : ∀ i : Nat, (cX1_digest.data.toList.map UInt8.toNat)[64 + i]? = kRcX1_digest_2[i]? := kstep katcX1_digest_1 (C := kCcX1_digest_1) rfl rfl
theorem kBcX1_digest_0 {b : Nat} (p : Nat) (hp : Nat.ble 0 p = true) (h : kCcX1_digest_0[p - 0]? = some b) : kb cX1_digest p b := kin katcX1_digest_0 rfl hp h
theorem kBcX1_digest_1 {b : Nat} (p : Nat) (hp : Nat.ble 32 p = true) (h : kCcX1_digest_1[p - 32]? = some b) : kb cX1_digest p b := kin katcX1_digest_1 rfl hp h
theorem kBcX1_digest_2 {b : Nat} (p : Nat) (hp : Nat.ble 64 p = true) (h : kCcX1_digest_2[p - 64]? = some b) : kb cX1_digest p b := kin katcX1_digest_2 rfl hp h
theorem dX1_digest_0 : decode cX1_digest 0 = .ok (.aload_n 0, 1) := dz_42 (kBcX1_digest_0 0 rfl rfl)
theorem dX1_digest_1 : decode cX1_digest 1 = .ok (.ldc2_w 212, 3) := dz_20 (kBcX1_digest_0 1 rfl rfl) (kBcX1_digest_0 2 rfl rfl) (kBcX1_digest_0 3 rfl rfl) rfl
theorem dX1_digest_4 : decode cX1_digest 4 = .ok (.invokevirtual 214, 3) := dz_182 (kBcX1_digest_0 4 rfl rfl) (kBcX1_digest_0 5 rfl rfl) (kBcX1_digest_0 6 rfl rfl) rfl
theorem dX1_digest_7 : decode cX1_digest 7 = .ok (.lstore_n 1, 1) := dz_64 (kBcX1_digest_0 7 rfl rfl)
theorem dX1_digest_8 : decode cX1_digest 8 = .ok (.aload_n 0, 1) := dz_42 (kBcX1_digest_0 8 rfl rfl)
theorem dX1_digest_9 : decode cX1_digest 9 = .ok (.lload_n 1, 1) := dz_31 (kBcX1_digest_0 9 rfl rfl)
theorem dX1_digest_10 : decode cX1_digest 10 = .ok (.invokevirtual 218, 3) := dz_182 (kBcX1_digest_0 10 rfl rfl) (kBcX1_digest_0 11 rfl rfl) (kBcX1_digest_0 12 rfl rfl) rfl
theorem dX1_digest_13 : decode cX1_digest 13 = .ok (.lstore_n 1, 1) := dz_64 (kBcX1_digest_0 13 rfl rfl)
theorem dX1_digest_14 : decode cX1_digest 14 = .ok (.aload_n 0, 1) := dz_42 (kBcX1_digest_0 14 rfl rfl)
theorem dX1_digest_15 : decode cX1_digest 15 = .ok (.lload_n 1, 1) := dz_31 (kBcX1_digest_0 15 rfl rfl)
theorem dX1_digest_16 : decode cX1_digest 16 = .ok (.invokevirtual 221, 3) := dz_182 (kBcX1_digest_0 16 rfl rfl) (kBcX1_digest_0 17 rfl rfl) (kBcX1_digest_0 18 rfl rfl) rfl
theorem dX1_digest_19 : decode cX1_digest 19 = .ok (.lstore_n 1, 1) := dz_64 (kBcX1_digest_0 19 rfl rfl)
theorem dX1_digest_20 : decode cX1_digest 20 = .ok (.aload_n 0, 1) := dz_42 (kBcX1_digest_0 20 rfl rfl)
theorem dX1_digest_21 : decode cX1_digest 21 = .ok (.lload_n 1, 1) := dz_31 (kBcX1_digest_0 21 rfl rfl)
theorem dX1_digest_22 : decode cX1_digest 22 = .ok (.invokevirtual 224, 3) := dz_182 (kBcX1_digest_0 22 rfl rfl) (kBcX1_digest_0 23 rfl rfl) (kBcX1_digest_0 24 rfl rfl) rfl
theorem dX1_digest_25 : decode cX1_digest 25 = .ok (.lstore_n 1, 1) := dz_64 (kBcX1_digest_0 25 rfl rfl)
theorem dX1_digest_26 : decode cX1_digest 26 = .ok (.aload_n 0, 1) := dz_42 (kBcX1_digest_0 26 rfl rfl)
theorem dX1_digest_27 : decode cX1_digest 27 = .ok (.lload_n 1, 1) := dz_31 (kBcX1_digest_0 27 rfl rfl)
theorem dX1_digest_28 : decode cX1_digest 28 = .ok (.invokevirtual 227, 3) := dz_182 (kBcX1_digest_0 28 rfl rfl) (kBcX1_digest_0 29 rfl rfl) (kBcX1_digest_0 30 rfl rfl) rfl
theorem dX1_digest_31 : decode cX1_digest 31 = .ok (.lstore_n 1, 1) := dz_64 (kBcX1_digest_0 31 rfl rfl)
theorem dX1_digest_32 : decode cX1_digest 32 = .ok (.aload_n 0, 1) := dz_42 (kBcX1_digest_1 32 rfl rfl)
theorem dX1_digest_33 : decode cX1_digest 33 = .ok (.lload_n 1, 1) := dz_31 (kBcX1_digest_1 33 rfl rfl)
theorem dX1_digest_34 : decode cX1_digest 34 = .ok (.invokevirtual 230, 3) := dz_182 (kBcX1_digest_1 34 rfl rfl) (kBcX1_digest_1 35 rfl rfl) (kBcX1_digest_1 36 rfl rfl) rfl
theorem dX1_digest_37 : decode cX1_digest 37 = .ok (.lstore_n 1, 1) := dz_64 (kBcX1_digest_1 37 rfl rfl)
theorem dX1_digest_38 : decode cX1_digest 38 = .ok (.iconst 0, 1) := dz_3 (kBcX1_digest_1 38 rfl rfl)
theorem dX1_digest_39 : decode cX1_digest 39 = .ok (.istore_n 3, 1) := dz_62 (kBcX1_digest_1 39 rfl rfl)
theorem dX1_digest_40 : decode cX1_digest 40 = .ok (.iload_n 3, 1) := dz_29 (kBcX1_digest_1 40 rfl rfl)
theorem dX1_digest_41 : decode cX1_digest 41 = .ok (.iconst 4, 1) := dz_7 (kBcX1_digest_1 41 rfl rfl)
theorem dX1_digest_42 : decode cX1_digest 42 = .ok (.if_icmp .gt 22, 3) := dz_163 (kBcX1_digest_1 42 rfl rfl) (kBcX1_digest_1 43 rfl rfl) (kBcX1_digest_1 44 rfl rfl) rfl
theorem dX1_digest_45 : decode cX1_digest 45 = .ok (.lload_n 1, 1) := dz_31 (kBcX1_digest_1 45 rfl rfl)
theorem dX1_digest_46 : decode cX1_digest 46 = .ok (.ldc2_w 233, 3) := dz_20 (kBcX1_digest_1 46 rfl rfl) (kBcX1_digest_1 47 rfl rfl) (kBcX1_digest_1 48 rfl rfl) rfl
theorem dX1_digest_49 : decode cX1_digest 49 = .ok (.lmul, 1) := dz_105 (kBcX1_digest_1 49 rfl rfl)
theorem dX1_digest_50 : decode cX1_digest 50 = .ok (.aload_n 0, 1) := dz_42 (kBcX1_digest_1 50 rfl rfl)
theorem dX1_digest_51 : decode cX1_digest 51 = .ok (.iload_n 3, 1) := dz_29 (kBcX1_digest_1 51 rfl rfl)
theorem dX1_digest_52 : decode cX1_digest 52 = .ok (.invokevirtual 235, 3) := dz_182 (kBcX1_digest_1 52 rfl rfl) (kBcX1_digest_1 53 rfl rfl) (kBcX1_digest_1 54 rfl rfl) rfl
theorem dX1_digest_55 : decode cX1_digest 55 = .ok (.i2l, 1) := dz_133 (kBcX1_digest_1 55 rfl rfl)
theorem dX1_digest_56 : decode cX1_digest 56 = .ok (.ladd, 1) := dz_97 (kBcX1_digest_1 56 rfl rfl)
theorem dX1_digest_57 : decode cX1_digest 57 = .ok (.lstore_n 1, 1) := dz_64 (kBcX1_digest_1 57 rfl rfl)
theorem dX1_digest_58 : decode cX1_digest 58 = .ok (.iinc 3 1, 3) := dz_132 (kBcX1_digest_1 58 rfl rfl) (kBcX1_digest_1 59 rfl rfl) (kBcX1_digest_1 60 rfl rfl) rfl
theorem dX1_digest_61 : decode cX1_digest 61 = .ok (.goto (-21), 3) := dz_167 (kBcX1_digest_1 61 rfl rfl) (kBcX1_digest_1 62 rfl rfl) (kBcX1_digest_1 63 rfl rfl) rfl
theorem dX1_digest_64 : decode cX1_digest 64 = .ok (.lload_n 1, 1) := dz_31 (kBcX1_digest_2 64 rfl rfl)
theorem dX1_digest_65 : decode cX1_digest 65 = .ok (.ldc2_w 233, 3) := dz_20 (kBcX1_digest_2 65 rfl rfl) (kBcX1_digest_2 66 rfl rfl) (kBcX1_digest_2 67 rfl rfl) rfl
theorem dX1_digest_68 : decode cX1_digest 68 = .ok (.lmul, 1) := dz_105 (kBcX1_digest_2 68 rfl rfl)
theorem dX1_digest_69 : decode cX1_digest 69 = .ok (.aload_n 0, 1) := dz_42 (kBcX1_digest_2 69 rfl rfl)
theorem dX1_digest_70 : decode cX1_digest 70 = .ok (.invokevirtual 238, 3) := dz_182 (kBcX1_digest_2 70 rfl rfl) (kBcX1_digest_2 71 rfl rfl) (kBcX1_digest_2 72 rfl rfl) rfl
theorem dX1_digest_73 : decode cX1_digest 73 = .ok (.invokestatic 92, 3) := dz_184 (kBcX1_digest_2 73 rfl rfl) (kBcX1_digest_2 74 rfl rfl) (kBcX1_digest_2 75 rfl rfl) rfl
theorem dX1_digest_76 : decode cX1_digest 76 = .ok (.i2l, 1) := dz_133 (kBcX1_digest_2 76 rfl rfl)
theorem dX1_digest_77 : decode cX1_digest 77 = .ok (.ladd, 1) := dz_97 (kBcX1_digest_2 77 rfl rfl)
theorem dX1_digest_78 : decode cX1_digest 78 = .ok (.lreturn, 1) := dz_173 (kBcX1_digest_2 78 rfl rfl)
def kCcX1_needPlace_0 : List Nat := [26, 155, 0, 8, 26, 7, 161, 0, 13, 187, 0, 242, 89, 18, 244, 183, 0, 246, 191, 177]
theorem kRcX1_needPlace_eq : cX1_needPlace.data.toList.map UInt8.toNat = kCcX1_needPlace_0 := by decide +kernel
theorem dX1_needPlace_0 : decode cX1_needPlace 0 = .ok (.iload_n 0, 1) := dz_26 (kin0 (p := 0) kRcX1_needPlace_eq rfl)
theorem dX1_needPlace_1 : decode cX1_needPlace 1 = .ok (.ifCond .lt 8, 3) := dz_155 (kin0 (p := 1) kRcX1_needPlace_eq rfl) (kin0 (p := 2) kRcX1_needPlace_eq rfl) (kin0 (p := 3) kRcX1_needPlace_eq rfl) rfl
theorem dX1_needPlace_4 : decode cX1_needPlace 4 = .ok (.iload_n 0, 1) := dz_26 (kin0 (p := 4) kRcX1_needPlace_eq rfl)
theorem dX1_needPlace_5 : decode cX1_needPlace 5 = .ok (.iconst 4, 1) := dz_7 (kin0 (p := 5) kRcX1_needPlace_eq rfl)
theorem dX1_needPlace_6 : decode cX1_needPlace 6 = .ok (.if_icmp .lt 13, 3) := dz_161 (kin0 (p := 6) kRcX1_needPlace_eq rfl) (kin0 (p := 7) kRcX1_needPlace_eq rfl) (kin0 (p := 8) kRcX1_needPlace_eq rfl) rfl
theorem dX1_needPlace_9 : decode cX1_needPlace 9 = .ok (.new 242, 3) := dz_187 (kin0 (p := 9) kRcX1_needPlace_eq rfl) (kin0 (p := 10) kRcX1_needPlace_eq rfl) (kin0 (p := 11) kRcX1_needPlace_eq rfl) rfl
theorem dX1_needPlace_12 : decode cX1_needPlace 12 = .ok (.dup, 1) := dz_89 (kin0 (p := 12) kRcX1_needPlace_eq rfl)
theorem dX1_needPlace_13 : decode cX1_needPlace 13 = .ok (.ldc 244, 2) := dz_18 (kin0 (p := 13) kRcX1_needPlace_eq rfl) (kin0 (p := 14) kRcX1_needPlace_eq rfl)
theorem dX1_needPlace_15 : decode cX1_needPlace 15 = .ok (.invokespecial 246, 3) := dz_183 (kin0 (p := 15) kRcX1_needPlace_eq rfl) (kin0 (p := 16) kRcX1_needPlace_eq rfl) (kin0 (p := 17) kRcX1_needPlace_eq rfl) rfl
theorem dX1_needPlace_18 : decode cX1_needPlace 18 = .ok (.athrow, 1) := dz_191 (kin0 (p := 18) kRcX1_needPlace_eq rfl)
theorem dX1_needPlace_19 : decode cX1_needPlace 19 = .ok (.return_, 1) := dz_177 (kin0 (p := 19) kRcX1_needPlace_eq rfl)
def kCcX1_needWithin_0 : List Nat := [26, 27, 161, 0, 8, 26, 28, 164, 0, 13, 187, 0, 249, 89, 18, 251, 183, 0, 253, 191, 177]
theorem kRcX1_needWithin_eq : cX1_needWithin.data.toList.map UInt8.toNat = kCcX1_needWithin_0 := by decide +kernel
theorem dX1_needWithin_0 : decode cX1_needWithin 0 = .ok (.iload_n 0, 1) := dz_26 (kin0 (p := 0) kRcX1_needWithin_eq rfl)
theorem dX1_needWithin_1 : decode cX1_needWithin 1 = .ok (.iload_n 1, 1) := dz_27 (kin0 (p := 1) kRcX1_needWithin_eq rfl)
theorem dX1_needWithin_2 : decode cX1_needWithin 2 = .ok (.if_icmp .lt 8, 3) := dz_161 (kin0 (p := 2) kRcX1_needWithin_eq rfl) (kin0 (p := 3) kRcX1_needWithin_eq rfl) (kin0 (p := 4) kRcX1_needWithin_eq rfl) rfl
theorem dX1_needWithin_5 : decode cX1_needWithin 5 = .ok (.iload_n 0, 1) := dz_26 (kin0 (p := 5) kRcX1_needWithin_eq rfl)
theorem dX1_needWithin_6 : decode cX1_needWithin 6 = .ok (.iload_n 2, 1) := dz_28 (kin0 (p := 6) kRcX1_needWithin_eq rfl)
theorem dX1_needWithin_7 : decode cX1_needWithin 7 = .ok (.if_icmp .le 13, 3) := dz_164 (kin0 (p := 7) kRcX1_needWithin_eq rfl) (kin0 (p := 8) kRcX1_needWithin_eq rfl) (kin0 (p := 9) kRcX1_needWithin_eq rfl) rfl
theorem dX1_needWithin_10 : decode cX1_needWithin 10 = .ok (.new 249, 3) := dz_187 (kin0 (p := 10) kRcX1_needWithin_eq rfl) (kin0 (p := 11) kRcX1_needWithin_eq rfl) (kin0 (p := 12) kRcX1_needWithin_eq rfl) rfl
theorem dX1_needWithin_13 : decode cX1_needWithin 13 = .ok (.dup, 1) := dz_89 (kin0 (p := 13) kRcX1_needWithin_eq rfl)
theorem dX1_needWithin_14 : decode cX1_needWithin 14 = .ok (.ldc 251, 2) := dz_18 (kin0 (p := 14) kRcX1_needWithin_eq rfl) (kin0 (p := 15) kRcX1_needWithin_eq rfl)
theorem dX1_needWithin_16 : decode cX1_needWithin 16 = .ok (.invokespecial 253, 3) := dz_183 (kin0 (p := 16) kRcX1_needWithin_eq rfl) (kin0 (p := 17) kRcX1_needWithin_eq rfl) (kin0 (p := 18) kRcX1_needWithin_eq rfl) rfl
theorem dX1_needWithin_19 : decode cX1_needWithin 19 = .ok (.athrow, 1) := dz_191 (kin0 (p := 19) kRcX1_needWithin_eq rfl)
theorem dX1_needWithin_20 : decode cX1_needWithin 20 = .ok (.return_, 1) := dz_177 (kin0 (p := 20) kRcX1_needWithin_eq rfl)
def kCcX1_needYearNumber_0 : List Nat := [26, 18, 196, 18, 195, 184, 0, 71, 177]
theorem kRcX1_needYearNumber_eq : cX1_needYearNumber.data.toList.map UInt8.toNat = kCcX1_needYearNumber_0 := by decide +kernel
theorem dX1_needYearNumber_0 : decode cX1_needYearNumber 0 = .ok (.iload_n 0, 1) := dz_26 (kin0 (p := 0) kRcX1_needYearNumber_eq rfl)
theorem dX1_needYearNumber_1 : decode cX1_needYearNumber 1 = .ok (.ldc 196, 2) := dz_18 (kin0 (p := 1) kRcX1_needYearNumber_eq rfl) (kin0 (p := 2) kRcX1_needYearNumber_eq rfl)
theorem dX1_needYearNumber_3 : decode cX1_needYearNumber 3 = .ok (.ldc 195, 2) := dz_18 (kin0 (p := 3) kRcX1_needYearNumber_eq rfl) (kin0 (p := 4) kRcX1_needYearNumber_eq rfl)
theorem dX1_needYearNumber_5 : decode cX1_needYearNumber 5 = .ok (.invokestatic 71, 3) := dz_184 (kin0 (p := 5) kRcX1_needYearNumber_eq rfl) (kin0 (p := 6) kRcX1_needYearNumber_eq rfl) (kin0 (p := 7) kRcX1_needYearNumber_eq rfl) rfl
theorem dX1_needYearNumber_8 : decode cX1_needYearNumber 8 = .ok (.return_, 1) := dz_177 (kin0 (p := 8) kRcX1_needYearNumber_eq rfl)
def kCcX1_needMonth_0 : List Nat := [26, 4, 16, 12, 184, 0, 71, 177]
theorem kRcX1_needMonth_eq : cX1_needMonth.data.toList.map UInt8.toNat = kCcX1_needMonth_0 := by decide +kernel
theorem dX1_needMonth_0 : decode cX1_needMonth 0 = .ok (.iload_n 0, 1) := dz_26 (kin0 (p := 0) kRcX1_needMonth_eq rfl)
theorem dX1_needMonth_1 : decode cX1_needMonth 1 = .ok (.iconst 1, 1) := dz_4 (kin0 (p := 1) kRcX1_needMonth_eq rfl)
theorem dX1_needMonth_2 : decode cX1_needMonth 2 = .ok (.bipush 12, 2) := dz_16 (kin0 (p := 2) kRcX1_needMonth_eq rfl) (kin0 (p := 3) kRcX1_needMonth_eq rfl) rfl
theorem dX1_needMonth_4 : decode cX1_needMonth 4 = .ok (.invokestatic 71, 3) := dz_184 (kin0 (p := 4) kRcX1_needMonth_eq rfl) (kin0 (p := 5) kRcX1_needMonth_eq rfl) (kin0 (p := 6) kRcX1_needMonth_eq rfl) rfl
theorem dX1_needMonth_7 : decode cX1_needMonth 7 = .ok (.return_, 1) := dz_177 (kin0 (p := 7) kRcX1_needMonth_eq rfl)
def kCcX1_needDayOfMonth_0 : List Nat := [26, 4, 16, 31, 184, 0, 71, 177]
theorem kRcX1_needDayOfMonth_eq : cX1_needDayOfMonth.data.toList.map UInt8.toNat = kCcX1_needDayOfMonth_0 := by decide +kernel
theorem dX1_needDayOfMonth_0 : decode cX1_needDayOfMonth 0 = .ok (.iload_n 0, 1) := dz_26 (kin0 (p := 0) kRcX1_needDayOfMonth_eq rfl)
theorem dX1_needDayOfMonth_1 : decode cX1_needDayOfMonth 1 = .ok (.iconst 1, 1) := dz_4 (kin0 (p := 1) kRcX1_needDayOfMonth_eq rfl)
theorem dX1_needDayOfMonth_2 : decode cX1_needDayOfMonth 2 = .ok (.bipush 31, 2) := dz_16 (kin0 (p := 2) kRcX1_needDayOfMonth_eq rfl) (kin0 (p := 3) kRcX1_needDayOfMonth_eq rfl) rfl
theorem dX1_needDayOfMonth_4 : decode cX1_needDayOfMonth 4 = .ok (.invokestatic 71, 3) := dz_184 (kin0 (p := 4) kRcX1_needDayOfMonth_eq rfl) (kin0 (p := 5) kRcX1_needDayOfMonth_eq rfl) (kin0 (p := 6) kRcX1_needDayOfMonth_eq rfl) rfl
theorem dX1_needDayOfMonth_7 : decode cX1_needDayOfMonth 7 = .ok (.return_, 1) := dz_177 (kin0 (p := 7) kRcX1_needDayOfMonth_eq rfl)
def kCcX1_needYearThing_0 : List Nat := [26, 171, 0, 0, 0, 0, 0, 44, 0, 0, 0, 2, 0, 0, 0, 0, 0, 0, 0, 27, 0, 0, 0, 1, 0, 0, 0, 34, 27, 184, 0, 44]
def kCcX1_needYearThing_1 : List Nat := [167, 0, 19, 27, 4, 18, 195, 184, 0, 71, 167, 0, 9, 27, 3, 4, 184, 0, 71, 177]
def kRcX1_needYearThing_2 : List Nat := []
def kRcX1_needYearThing_1 : List Nat := kCcX1_needYearThing_1 ++ kRcX1_needYearThing_2
def kRcX1_needYearThing_0 : List Nat := kCcX1_needYearThing_0 ++ kRcX1_needYearThing_1
theorem kRcX1_needYearThing_eq : cX1_needYearThing.data.toList.map UInt8.toNat = kRcX1_needYearThing_0 := by decide +kernel
theorem katcX1_needYearThing_0 (i : Nat) : (cX1_needYearThing.data.toList.map UInt8.toNat)[0 + i]? = kRcX1_needYearThing_0[i]? := by rw [kRcX1_needYearThing_eq, Nat.zero_add]
theorem katcX1_needYearThing_1 : ∀ i : Nat, (cX1_needYearThing.data.toList.map UInt8.toNat)[32 + i]? = kRcX1_needYearThing_1[i]? := kstep katcX1_needYearThing_0 (C := kCcX1_needYearThing_0) rfl rfl
theorem kBcX1_needYearThing_0 {b : Nat} (p : Nat) (hp : Nat.ble 0 p = true) (h : kCcX1_needYearThing_0[p - 0]? = some b) : kb cX1_needYearThing p b := kin katcX1_needYearThing_0 rfl hp h
theorem kBcX1_needYearThing_1 {b : Nat} (p : Nat) (hp : Nat.ble 32 p = true) (h : kCcX1_needYearThing_1[p - 32]? = some b) : kb cX1_needYearThing p b := kin katcX1_needYearThing_1 rfl hp h
theorem dX1_needYearThing_0 : decode cX1_needYearThing 0 = .ok (.iload_n 0, 1) := dz_26 (kBcX1_needYearThing_0 0 rfl rfl)
theorem dX1_needYearThing_1 : decode cX1_needYearThing 1 = .ok (.lookupswitch 44 #[(0, 27), (1, 34)], 27) := by decide +kernel
theorem dX1_needYearThing_28 : decode cX1_needYearThing 28 = .ok (.iload_n 1, 1) := dz_27 (kBcX1_needYearThing_0 28 rfl rfl)
theorem dX1_needYearThing_29 : decode cX1_needYearThing 29 = .ok (.invokestatic 44, 3) := dz_184 (kBcX1_needYearThing_0 29 rfl rfl) (kBcX1_needYearThing_0 30 rfl rfl) (kBcX1_needYearThing_0 31 rfl rfl) rfl
theorem dX1_needYearThing_32 : decode cX1_needYearThing 32 = .ok (.goto 19, 3) := dz_167 (kBcX1_needYearThing_1 32 rfl rfl) (kBcX1_needYearThing_1 33 rfl rfl) (kBcX1_needYearThing_1 34 rfl rfl) rfl
theorem dX1_needYearThing_35 : decode cX1_needYearThing 35 = .ok (.iload_n 1, 1) := dz_27 (kBcX1_needYearThing_1 35 rfl rfl)
theorem dX1_needYearThing_36 : decode cX1_needYearThing 36 = .ok (.iconst 1, 1) := dz_4 (kBcX1_needYearThing_1 36 rfl rfl)
theorem dX1_needYearThing_37 : decode cX1_needYearThing 37 = .ok (.ldc 195, 2) := dz_18 (kBcX1_needYearThing_1 37 rfl rfl) (kBcX1_needYearThing_1 38 rfl rfl)
theorem dX1_needYearThing_39 : decode cX1_needYearThing 39 = .ok (.invokestatic 71, 3) := dz_184 (kBcX1_needYearThing_1 39 rfl rfl) (kBcX1_needYearThing_1 40 rfl rfl) (kBcX1_needYearThing_1 41 rfl rfl) rfl
theorem dX1_needYearThing_42 : decode cX1_needYearThing 42 = .ok (.goto 9, 3) := dz_167 (kBcX1_needYearThing_1 42 rfl rfl) (kBcX1_needYearThing_1 43 rfl rfl) (kBcX1_needYearThing_1 44 rfl rfl) rfl
theorem dX1_needYearThing_45 : decode cX1_needYearThing 45 = .ok (.iload_n 1, 1) := dz_27 (kBcX1_needYearThing_1 45 rfl rfl)
theorem dX1_needYearThing_46 : decode cX1_needYearThing 46 = .ok (.iconst 0, 1) := dz_3 (kBcX1_needYearThing_1 46 rfl rfl)
theorem dX1_needYearThing_47 : decode cX1_needYearThing 47 = .ok (.iconst 1, 1) := dz_4 (kBcX1_needYearThing_1 47 rfl rfl)
theorem dX1_needYearThing_48 : decode cX1_needYearThing 48 = .ok (.invokestatic 71, 3) := dz_184 (kBcX1_needYearThing_1 48 rfl rfl) (kBcX1_needYearThing_1 49 rfl rfl) (kBcX1_needYearThing_1 50 rfl rfl) rfl
theorem dX1_needYearThing_51 : decode cX1_needYearThing 51 = .ok (.return_, 1) := dz_177 (kBcX1_needYearThing_1 51 rfl rfl)
def kCcX1_putLeaf_0 : List Nat := [32, 20, 0, 254, 148, 155, 0, 11, 32, 20, 1, 0, 148, 158, 0, 6, 16, 247, 172, 42, 180, 0, 9, 27, 32, 80, 32, 184, 0, 139, 172]
theorem kRcX1_putLeaf_eq : cX1_putLeaf.data.toList.map UInt8.toNat = kCcX1_putLeaf_0 := by decide +kernel
theorem dX1_putLeaf_0 : decode cX1_putLeaf 0 = .ok (.lload_n 2, 1) := dz_32 (kin0 (p := 0) kRcX1_putLeaf_eq rfl)
theorem dX1_putLeaf_1 : decode cX1_putLeaf 1 = .ok (.ldc2_w 254, 3) := dz_20 (kin0 (p := 1) kRcX1_putLeaf_eq rfl) (kin0 (p := 2) kRcX1_putLeaf_eq rfl) (kin0 (p := 3) kRcX1_putLeaf_eq rfl) rfl
theorem dX1_putLeaf_4 : decode cX1_putLeaf 4 = .ok (.lcmp, 1) := dz_148 (kin0 (p := 4) kRcX1_putLeaf_eq rfl)
theorem dX1_putLeaf_5 : decode cX1_putLeaf 5 = .ok (.ifCond .lt 11, 3) := dz_155 (kin0 (p := 5) kRcX1_putLeaf_eq rfl) (kin0 (p := 6) kRcX1_putLeaf_eq rfl) (kin0 (p := 7) kRcX1_putLeaf_eq rfl) rfl
theorem dX1_putLeaf_8 : decode cX1_putLeaf 8 = .ok (.lload_n 2, 1) := dz_32 (kin0 (p := 8) kRcX1_putLeaf_eq rfl)
theorem dX1_putLeaf_9 : decode cX1_putLeaf 9 = .ok (.ldc2_w 256, 3) := dz_20 (kin0 (p := 9) kRcX1_putLeaf_eq rfl) (kin0 (p := 10) kRcX1_putLeaf_eq rfl) (kin0 (p := 11) kRcX1_putLeaf_eq rfl) rfl
theorem dX1_putLeaf_12 : decode cX1_putLeaf 12 = .ok (.lcmp, 1) := dz_148 (kin0 (p := 12) kRcX1_putLeaf_eq rfl)
theorem dX1_putLeaf_13 : decode cX1_putLeaf 13 = .ok (.ifCond .le 6, 3) := dz_158 (kin0 (p := 13) kRcX1_putLeaf_eq rfl) (kin0 (p := 14) kRcX1_putLeaf_eq rfl) (kin0 (p := 15) kRcX1_putLeaf_eq rfl) rfl
theorem dX1_putLeaf_16 : decode cX1_putLeaf 16 = .ok (.bipush (-9), 2) := dz_16 (kin0 (p := 16) kRcX1_putLeaf_eq rfl) (kin0 (p := 17) kRcX1_putLeaf_eq rfl) rfl
theorem dX1_putLeaf_18 : decode cX1_putLeaf 18 = .ok (.ireturn, 1) := dz_172 (kin0 (p := 18) kRcX1_putLeaf_eq rfl)
theorem dX1_putLeaf_19 : decode cX1_putLeaf 19 = .ok (.aload_n 0, 1) := dz_42 (kin0 (p := 19) kRcX1_putLeaf_eq rfl)
theorem dX1_putLeaf_20 : decode cX1_putLeaf 20 = .ok (.getfield 9, 3) := dz_180 (kin0 (p := 20) kRcX1_putLeaf_eq rfl) (kin0 (p := 21) kRcX1_putLeaf_eq rfl) (kin0 (p := 22) kRcX1_putLeaf_eq rfl) rfl
theorem dX1_putLeaf_23 : decode cX1_putLeaf 23 = .ok (.iload_n 1, 1) := dz_27 (kin0 (p := 23) kRcX1_putLeaf_eq rfl)
theorem dX1_putLeaf_24 : decode cX1_putLeaf 24 = .ok (.lload_n 2, 1) := dz_32 (kin0 (p := 24) kRcX1_putLeaf_eq rfl)
theorem dX1_putLeaf_25 : decode cX1_putLeaf 25 = .ok (.lastore, 1) := dz_80 (kin0 (p := 25) kRcX1_putLeaf_eq rfl)
theorem dX1_putLeaf_26 : decode cX1_putLeaf 26 = .ok (.lload_n 2, 1) := dz_32 (kin0 (p := 26) kRcX1_putLeaf_eq rfl)
theorem dX1_putLeaf_27 : decode cX1_putLeaf 27 = .ok (.invokestatic 139, 3) := dz_184 (kin0 (p := 27) kRcX1_putLeaf_eq rfl) (kin0 (p := 28) kRcX1_putLeaf_eq rfl) (kin0 (p := 29) kRcX1_putLeaf_eq rfl) rfl
theorem dX1_putLeaf_30 : decode cX1_putLeaf 30 = .ok (.ireturn, 1) := dz_172 (kin0 (p := 30) kRcX1_putLeaf_eq rfl)
def kCcX1_moveLeaf_0 : List Nat := [42, 27, 42, 180, 0, 9, 27, 47, 21, 4, 153, 0, 8, 32, 117, 167, 0, 4, 32, 97, 182, 0, 56, 172]
theorem kRcX1_moveLeaf_eq : cX1_moveLeaf.data.toList.map UInt8.toNat = kCcX1_moveLeaf_0 := by decide +kernel
theorem dX1_moveLeaf_0 : decode cX1_moveLeaf 0 = .ok (.aload_n 0, 1) := dz_42 (kin0 (p := 0) kRcX1_moveLeaf_eq rfl)
theorem dX1_moveLeaf_1 : decode cX1_moveLeaf 1 = .ok (.iload_n 1, 1) := dz_27 (kin0 (p := 1) kRcX1_moveLeaf_eq rfl)
theorem dX1_moveLeaf_2 : decode cX1_moveLeaf 2 = .ok (.aload_n 0, 1) := dz_42 (kin0 (p := 2) kRcX1_moveLeaf_eq rfl)
theorem dX1_moveLeaf_3 : decode cX1_moveLeaf 3 = .ok (.getfield 9, 3) := dz_180 (kin0 (p := 3) kRcX1_moveLeaf_eq rfl) (kin0 (p := 4) kRcX1_moveLeaf_eq rfl) (kin0 (p := 5) kRcX1_moveLeaf_eq rfl) rfl
theorem dX1_moveLeaf_6 : decode cX1_moveLeaf 6 = .ok (.iload_n 1, 1) := dz_27 (kin0 (p := 6) kRcX1_moveLeaf_eq rfl)
theorem dX1_moveLeaf_7 : decode cX1_moveLeaf 7 = .ok (.laload, 1) := dz_47 (kin0 (p := 7) kRcX1_moveLeaf_eq rfl)
theorem dX1_moveLeaf_8 : decode cX1_moveLeaf 8 = .ok (.iload 4, 2) := dz_21 (kin0 (p := 8) kRcX1_moveLeaf_eq rfl) (kin0 (p := 9) kRcX1_moveLeaf_eq rfl)
theorem dX1_moveLeaf_10 : decode cX1_moveLeaf 10 = .ok (.ifCond .eq 8, 3) := dz_153 (kin0 (p := 10) kRcX1_moveLeaf_eq rfl) (kin0 (p := 11) kRcX1_moveLeaf_eq rfl) (kin0 (p := 12) kRcX1_moveLeaf_eq rfl) rfl
theorem dX1_moveLeaf_13 : decode cX1_moveLeaf 13 = .ok (.lload_n 2, 1) := dz_32 (kin0 (p := 13) kRcX1_moveLeaf_eq rfl)
theorem dX1_moveLeaf_14 : decode cX1_moveLeaf 14 = .ok (.lneg, 1) := dz_117 (kin0 (p := 14) kRcX1_moveLeaf_eq rfl)
theorem dX1_moveLeaf_15 : decode cX1_moveLeaf 15 = .ok (.goto 4, 3) := dz_167 (kin0 (p := 15) kRcX1_moveLeaf_eq rfl) (kin0 (p := 16) kRcX1_moveLeaf_eq rfl) (kin0 (p := 17) kRcX1_moveLeaf_eq rfl) rfl
theorem dX1_moveLeaf_18 : decode cX1_moveLeaf 18 = .ok (.lload_n 2, 1) := dz_32 (kin0 (p := 18) kRcX1_moveLeaf_eq rfl)
theorem dX1_moveLeaf_19 : decode cX1_moveLeaf 19 = .ok (.ladd, 1) := dz_97 (kin0 (p := 19) kRcX1_moveLeaf_eq rfl)
theorem dX1_moveLeaf_20 : decode cX1_moveLeaf 20 = .ok (.invokevirtual 56, 3) := dz_182 (kin0 (p := 20) kRcX1_moveLeaf_eq rfl) (kin0 (p := 21) kRcX1_moveLeaf_eq rfl) (kin0 (p := 22) kRcX1_moveLeaf_eq rfl) rfl
theorem dX1_moveLeaf_23 : decode cX1_moveLeaf 23 = .ok (.ireturn, 1) := dz_172 (kin0 (p := 23) kRcX1_moveLeaf_eq rfl)
def kCcX1_putYear_0 : List Nat := [32, 20, 1, 2, 148, 155, 0, 11, 32, 20, 1, 4, 148, 158, 0, 6, 16, 247, 172, 42, 180, 0, 13, 27, 32, 136, 79, 32, 184, 0, 142, 172]
theorem kRcX1_putYear_eq : cX1_putYear.data.toList.map UInt8.toNat = kCcX1_putYear_0 := by decide +kernel
theorem dX1_putYear_0 : decode cX1_putYear 0 = .ok (.lload_n 2, 1) := dz_32 (kin0 (p := 0) kRcX1_putYear_eq rfl)
theorem dX1_putYear_1 : decode cX1_putYear 1 = .ok (.ldc2_w 258, 3) := dz_20 (kin0 (p := 1) kRcX1_putYear_eq rfl) (kin0 (p := 2) kRcX1_putYear_eq rfl) (kin0 (p := 3) kRcX1_putYear_eq rfl) rfl
theorem dX1_putYear_4 : decode cX1_putYear 4 = .ok (.lcmp, 1) := dz_148 (kin0 (p := 4) kRcX1_putYear_eq rfl)
theorem dX1_putYear_5 : decode cX1_putYear 5 = .ok (.ifCond .lt 11, 3) := dz_155 (kin0 (p := 5) kRcX1_putYear_eq rfl) (kin0 (p := 6) kRcX1_putYear_eq rfl) (kin0 (p := 7) kRcX1_putYear_eq rfl) rfl
theorem dX1_putYear_8 : decode cX1_putYear 8 = .ok (.lload_n 2, 1) := dz_32 (kin0 (p := 8) kRcX1_putYear_eq rfl)
theorem dX1_putYear_9 : decode cX1_putYear 9 = .ok (.ldc2_w 260, 3) := dz_20 (kin0 (p := 9) kRcX1_putYear_eq rfl) (kin0 (p := 10) kRcX1_putYear_eq rfl) (kin0 (p := 11) kRcX1_putYear_eq rfl) rfl
theorem dX1_putYear_12 : decode cX1_putYear 12 = .ok (.lcmp, 1) := dz_148 (kin0 (p := 12) kRcX1_putYear_eq rfl)
theorem dX1_putYear_13 : decode cX1_putYear 13 = .ok (.ifCond .le 6, 3) := dz_158 (kin0 (p := 13) kRcX1_putYear_eq rfl) (kin0 (p := 14) kRcX1_putYear_eq rfl) (kin0 (p := 15) kRcX1_putYear_eq rfl) rfl
theorem dX1_putYear_16 : decode cX1_putYear 16 = .ok (.bipush (-9), 2) := dz_16 (kin0 (p := 16) kRcX1_putYear_eq rfl) (kin0 (p := 17) kRcX1_putYear_eq rfl) rfl
theorem dX1_putYear_18 : decode cX1_putYear 18 = .ok (.ireturn, 1) := dz_172 (kin0 (p := 18) kRcX1_putYear_eq rfl)
theorem dX1_putYear_19 : decode cX1_putYear 19 = .ok (.aload_n 0, 1) := dz_42 (kin0 (p := 19) kRcX1_putYear_eq rfl)
theorem dX1_putYear_20 : decode cX1_putYear 20 = .ok (.getfield 13, 3) := dz_180 (kin0 (p := 20) kRcX1_putYear_eq rfl) (kin0 (p := 21) kRcX1_putYear_eq rfl) (kin0 (p := 22) kRcX1_putYear_eq rfl) rfl
theorem dX1_putYear_23 : decode cX1_putYear 23 = .ok (.iload_n 1, 1) := dz_27 (kin0 (p := 23) kRcX1_putYear_eq rfl)
theorem dX1_putYear_24 : decode cX1_putYear 24 = .ok (.lload_n 2, 1) := dz_32 (kin0 (p := 24) kRcX1_putYear_eq rfl)
theorem dX1_putYear_25 : decode cX1_putYear 25 = .ok (.l2i, 1) := dz_136 (kin0 (p := 25) kRcX1_putYear_eq rfl)
theorem dX1_putYear_26 : decode cX1_putYear 26 = .ok (.iastore, 1) := dz_79 (kin0 (p := 26) kRcX1_putYear_eq rfl)
theorem dX1_putYear_27 : decode cX1_putYear 27 = .ok (.lload_n 2, 1) := dz_32 (kin0 (p := 27) kRcX1_putYear_eq rfl)
theorem dX1_putYear_28 : decode cX1_putYear 28 = .ok (.invokestatic 142, 3) := dz_184 (kin0 (p := 28) kRcX1_putYear_eq rfl) (kin0 (p := 29) kRcX1_putYear_eq rfl) (kin0 (p := 30) kRcX1_putYear_eq rfl) rfl
theorem dX1_putYear_31 : decode cX1_putYear 31 = .ok (.ireturn, 1) := dz_172 (kin0 (p := 31) kRcX1_putYear_eq rfl)
def kCcX1_moveYear_0 : List Nat := [42, 27, 42, 180, 0, 13, 27, 46, 133, 21, 4, 153, 0, 8, 32, 117, 167, 0, 4, 32, 97, 182, 0, 96, 172]
theorem kRcX1_moveYear_eq : cX1_moveYear.data.toList.map UInt8.toNat = kCcX1_moveYear_0 := by decide +kernel
theorem dX1_moveYear_0 : decode cX1_moveYear 0 = .ok (.aload_n 0, 1) := dz_42 (kin0 (p := 0) kRcX1_moveYear_eq rfl)
theorem dX1_moveYear_1 : decode cX1_moveYear 1 = .ok (.iload_n 1, 1) := dz_27 (kin0 (p := 1) kRcX1_moveYear_eq rfl)
theorem dX1_moveYear_2 : decode cX1_moveYear 2 = .ok (.aload_n 0, 1) := dz_42 (kin0 (p := 2) kRcX1_moveYear_eq rfl)
theorem dX1_moveYear_3 : decode cX1_moveYear 3 = .ok (.getfield 13, 3) := dz_180 (kin0 (p := 3) kRcX1_moveYear_eq rfl) (kin0 (p := 4) kRcX1_moveYear_eq rfl) (kin0 (p := 5) kRcX1_moveYear_eq rfl) rfl
theorem dX1_moveYear_6 : decode cX1_moveYear 6 = .ok (.iload_n 1, 1) := dz_27 (kin0 (p := 6) kRcX1_moveYear_eq rfl)
theorem dX1_moveYear_7 : decode cX1_moveYear 7 = .ok (.iaload, 1) := dz_46 (kin0 (p := 7) kRcX1_moveYear_eq rfl)
theorem dX1_moveYear_8 : decode cX1_moveYear 8 = .ok (.i2l, 1) := dz_133 (kin0 (p := 8) kRcX1_moveYear_eq rfl)
theorem dX1_moveYear_9 : decode cX1_moveYear 9 = .ok (.iload 4, 2) := dz_21 (kin0 (p := 9) kRcX1_moveYear_eq rfl) (kin0 (p := 10) kRcX1_moveYear_eq rfl)
theorem dX1_moveYear_11 : decode cX1_moveYear 11 = .ok (.ifCond .eq 8, 3) := dz_153 (kin0 (p := 11) kRcX1_moveYear_eq rfl) (kin0 (p := 12) kRcX1_moveYear_eq rfl) (kin0 (p := 13) kRcX1_moveYear_eq rfl) rfl
theorem dX1_moveYear_14 : decode cX1_moveYear 14 = .ok (.lload_n 2, 1) := dz_32 (kin0 (p := 14) kRcX1_moveYear_eq rfl)
theorem dX1_moveYear_15 : decode cX1_moveYear 15 = .ok (.lneg, 1) := dz_117 (kin0 (p := 15) kRcX1_moveYear_eq rfl)
theorem dX1_moveYear_16 : decode cX1_moveYear 16 = .ok (.goto 4, 3) := dz_167 (kin0 (p := 16) kRcX1_moveYear_eq rfl) (kin0 (p := 17) kRcX1_moveYear_eq rfl) (kin0 (p := 18) kRcX1_moveYear_eq rfl) rfl
theorem dX1_moveYear_19 : decode cX1_moveYear 19 = .ok (.lload_n 2, 1) := dz_32 (kin0 (p := 19) kRcX1_moveYear_eq rfl)
theorem dX1_moveYear_20 : decode cX1_moveYear 20 = .ok (.ladd, 1) := dz_97 (kin0 (p := 20) kRcX1_moveYear_eq rfl)
theorem dX1_moveYear_21 : decode cX1_moveYear 21 = .ok (.invokevirtual 96, 3) := dz_182 (kin0 (p := 21) kRcX1_moveYear_eq rfl) (kin0 (p := 22) kRcX1_moveYear_eq rfl) (kin0 (p := 23) kRcX1_moveYear_eq rfl) rfl
theorem dX1_moveYear_24 : decode cX1_moveYear 24 = .ok (.ireturn, 1) := dz_172 (kin0 (p := 24) kRcX1_moveYear_eq rfl)
def kCcX1_putFeast_0 : List Nat := [29, 28, 4, 184, 0, 115, 164, 0, 5, 3, 172, 42, 180, 0, 17, 27, 28, 79, 42, 180, 0, 20, 27, 29, 79, 4, 172]
theorem kRcX1_putFeast_eq : cX1_putFeast.data.toList.map UInt8.toNat = kCcX1_putFeast_0 := by decide +kernel
theorem dX1_putFeast_0 : decode cX1_putFeast 0 = .ok (.iload_n 3, 1) := dz_29 (kin0 (p := 0) kRcX1_putFeast_eq rfl)
theorem dX1_putFeast_1 : decode cX1_putFeast 1 = .ok (.iload_n 2, 1) := dz_28 (kin0 (p := 1) kRcX1_putFeast_eq rfl)
theorem dX1_putFeast_2 : decode cX1_putFeast 2 = .ok (.iconst 1, 1) := dz_4 (kin0 (p := 2) kRcX1_putFeast_eq rfl)
theorem dX1_putFeast_3 : decode cX1_putFeast 3 = .ok (.invokestatic 115, 3) := dz_184 (kin0 (p := 3) kRcX1_putFeast_eq rfl) (kin0 (p := 4) kRcX1_putFeast_eq rfl) (kin0 (p := 5) kRcX1_putFeast_eq rfl) rfl
theorem dX1_putFeast_6 : decode cX1_putFeast 6 = .ok (.if_icmp .le 5, 3) := dz_164 (kin0 (p := 6) kRcX1_putFeast_eq rfl) (kin0 (p := 7) kRcX1_putFeast_eq rfl) (kin0 (p := 8) kRcX1_putFeast_eq rfl) rfl
theorem dX1_putFeast_9 : decode cX1_putFeast 9 = .ok (.iconst 0, 1) := dz_3 (kin0 (p := 9) kRcX1_putFeast_eq rfl)
theorem dX1_putFeast_10 : decode cX1_putFeast 10 = .ok (.ireturn, 1) := dz_172 (kin0 (p := 10) kRcX1_putFeast_eq rfl)
theorem dX1_putFeast_11 : decode cX1_putFeast 11 = .ok (.aload_n 0, 1) := dz_42 (kin0 (p := 11) kRcX1_putFeast_eq rfl)
theorem dX1_putFeast_12 : decode cX1_putFeast 12 = .ok (.getfield 17, 3) := dz_180 (kin0 (p := 12) kRcX1_putFeast_eq rfl) (kin0 (p := 13) kRcX1_putFeast_eq rfl) (kin0 (p := 14) kRcX1_putFeast_eq rfl) rfl
theorem dX1_putFeast_15 : decode cX1_putFeast 15 = .ok (.iload_n 1, 1) := dz_27 (kin0 (p := 15) kRcX1_putFeast_eq rfl)
theorem dX1_putFeast_16 : decode cX1_putFeast 16 = .ok (.iload_n 2, 1) := dz_28 (kin0 (p := 16) kRcX1_putFeast_eq rfl)
theorem dX1_putFeast_17 : decode cX1_putFeast 17 = .ok (.iastore, 1) := dz_79 (kin0 (p := 17) kRcX1_putFeast_eq rfl)
theorem dX1_putFeast_18 : decode cX1_putFeast 18 = .ok (.aload_n 0, 1) := dz_42 (kin0 (p := 18) kRcX1_putFeast_eq rfl)
theorem dX1_putFeast_19 : decode cX1_putFeast 19 = .ok (.getfield 20, 3) := dz_180 (kin0 (p := 19) kRcX1_putFeast_eq rfl) (kin0 (p := 20) kRcX1_putFeast_eq rfl) (kin0 (p := 21) kRcX1_putFeast_eq rfl) rfl
theorem dX1_putFeast_22 : decode cX1_putFeast 22 = .ok (.iload_n 1, 1) := dz_27 (kin0 (p := 22) kRcX1_putFeast_eq rfl)
theorem dX1_putFeast_23 : decode cX1_putFeast 23 = .ok (.iload_n 3, 1) := dz_29 (kin0 (p := 23) kRcX1_putFeast_eq rfl)
theorem dX1_putFeast_24 : decode cX1_putFeast 24 = .ok (.iastore, 1) := dz_79 (kin0 (p := 24) kRcX1_putFeast_eq rfl)
theorem dX1_putFeast_25 : decode cX1_putFeast 25 = .ok (.iconst 1, 1) := dz_4 (kin0 (p := 25) kRcX1_putFeast_eq rfl)
theorem dX1_putFeast_26 : decode cX1_putFeast 26 = .ok (.ireturn, 1) := dz_172 (kin0 (p := 26) kRcX1_putFeast_eq rfl)
def kCcX1_putDay_0 : List Nat := [42, 180, 0, 23, 27, 32, 80, 42, 180, 0, 26, 27, 21, 4, 79, 177]
theorem kRcX1_putDay_eq : cX1_putDay.data.toList.map UInt8.toNat = kCcX1_putDay_0 := by decide +kernel
theorem dX1_putDay_0 : decode cX1_putDay 0 = .ok (.aload_n 0, 1) := dz_42 (kin0 (p := 0) kRcX1_putDay_eq rfl)
theorem dX1_putDay_1 : decode cX1_putDay 1 = .ok (.getfield 23, 3) := dz_180 (kin0 (p := 1) kRcX1_putDay_eq rfl) (kin0 (p := 2) kRcX1_putDay_eq rfl) (kin0 (p := 3) kRcX1_putDay_eq rfl) rfl
theorem dX1_putDay_4 : decode cX1_putDay 4 = .ok (.iload_n 1, 1) := dz_27 (kin0 (p := 4) kRcX1_putDay_eq rfl)
theorem dX1_putDay_5 : decode cX1_putDay 5 = .ok (.lload_n 2, 1) := dz_32 (kin0 (p := 5) kRcX1_putDay_eq rfl)
theorem dX1_putDay_6 : decode cX1_putDay 6 = .ok (.lastore, 1) := dz_80 (kin0 (p := 6) kRcX1_putDay_eq rfl)
theorem dX1_putDay_7 : decode cX1_putDay 7 = .ok (.aload_n 0, 1) := dz_42 (kin0 (p := 7) kRcX1_putDay_eq rfl)
theorem dX1_putDay_8 : decode cX1_putDay 8 = .ok (.getfield 26, 3) := dz_180 (kin0 (p := 8) kRcX1_putDay_eq rfl) (kin0 (p := 9) kRcX1_putDay_eq rfl) (kin0 (p := 10) kRcX1_putDay_eq rfl) rfl
theorem dX1_putDay_11 : decode cX1_putDay 11 = .ok (.iload_n 1, 1) := dz_27 (kin0 (p := 11) kRcX1_putDay_eq rfl)
theorem dX1_putDay_12 : decode cX1_putDay 12 = .ok (.iload 4, 2) := dz_21 (kin0 (p := 12) kRcX1_putDay_eq rfl) (kin0 (p := 13) kRcX1_putDay_eq rfl)
theorem dX1_putDay_14 : decode cX1_putDay 14 = .ok (.iastore, 1) := dz_79 (kin0 (p := 14) kRcX1_putDay_eq rfl)
theorem dX1_putDay_15 : decode cX1_putDay 15 = .ok (.return_, 1) := dz_177 (kin0 (p := 15) kRcX1_putDay_eq rfl)
def kCcX1_putDayOfFeast_0 : List Nat := [42, 27, 29, 42, 180, 0, 17, 28, 46, 184, 0, 50, 42, 28, 29, 182, 1, 6, 182, 0, 132, 177]
theorem kRcX1_putDayOfFeast_eq : cX1_putDayOfFeast.data.toList.map UInt8.toNat = kCcX1_putDayOfFeast_0 := by decide +kernel
theorem dX1_putDayOfFeast_0 : decode cX1_putDayOfFeast 0 = .ok (.aload_n 0, 1) := dz_42 (kin0 (p := 0) kRcX1_putDayOfFeast_eq rfl)
theorem dX1_putDayOfFeast_1 : decode cX1_putDayOfFeast 1 = .ok (.iload_n 1, 1) := dz_27 (kin0 (p := 1) kRcX1_putDayOfFeast_eq rfl)
theorem dX1_putDayOfFeast_2 : decode cX1_putDayOfFeast 2 = .ok (.iload_n 3, 1) := dz_29 (kin0 (p := 2) kRcX1_putDayOfFeast_eq rfl)
theorem dX1_putDayOfFeast_3 : decode cX1_putDayOfFeast 3 = .ok (.aload_n 0, 1) := dz_42 (kin0 (p := 3) kRcX1_putDayOfFeast_eq rfl)
theorem dX1_putDayOfFeast_4 : decode cX1_putDayOfFeast 4 = .ok (.getfield 17, 3) := dz_180 (kin0 (p := 4) kRcX1_putDayOfFeast_eq rfl) (kin0 (p := 5) kRcX1_putDayOfFeast_eq rfl) (kin0 (p := 6) kRcX1_putDayOfFeast_eq rfl) rfl
theorem dX1_putDayOfFeast_7 : decode cX1_putDayOfFeast 7 = .ok (.iload_n 2, 1) := dz_28 (kin0 (p := 7) kRcX1_putDayOfFeast_eq rfl)
theorem dX1_putDayOfFeast_8 : decode cX1_putDayOfFeast 8 = .ok (.iaload, 1) := dz_46 (kin0 (p := 8) kRcX1_putDayOfFeast_eq rfl)
theorem dX1_putDayOfFeast_9 : decode cX1_putDayOfFeast 9 = .ok (.invokestatic 50, 3) := dz_184 (kin0 (p := 9) kRcX1_putDayOfFeast_eq rfl) (kin0 (p := 10) kRcX1_putDayOfFeast_eq rfl) (kin0 (p := 11) kRcX1_putDayOfFeast_eq rfl) rfl
theorem dX1_putDayOfFeast_12 : decode cX1_putDayOfFeast 12 = .ok (.aload_n 0, 1) := dz_42 (kin0 (p := 12) kRcX1_putDayOfFeast_eq rfl)
theorem dX1_putDayOfFeast_13 : decode cX1_putDayOfFeast 13 = .ok (.iload_n 2, 1) := dz_28 (kin0 (p := 13) kRcX1_putDayOfFeast_eq rfl)
theorem dX1_putDayOfFeast_14 : decode cX1_putDayOfFeast 14 = .ok (.iload_n 3, 1) := dz_29 (kin0 (p := 14) kRcX1_putDayOfFeast_eq rfl)
theorem dX1_putDayOfFeast_15 : decode cX1_putDayOfFeast 15 = .ok (.invokevirtual 262, 3) := dz_182 (kin0 (p := 15) kRcX1_putDayOfFeast_eq rfl) (kin0 (p := 16) kRcX1_putDayOfFeast_eq rfl) (kin0 (p := 17) kRcX1_putDayOfFeast_eq rfl) rfl
theorem dX1_putDayOfFeast_18 : decode cX1_putDayOfFeast 18 = .ok (.invokevirtual 132, 3) := dz_182 (kin0 (p := 18) kRcX1_putDayOfFeast_eq rfl) (kin0 (p := 19) kRcX1_putDayOfFeast_eq rfl) (kin0 (p := 20) kRcX1_putDayOfFeast_eq rfl) rfl
theorem dX1_putDayOfFeast_21 : decode cX1_putDayOfFeast 21 = .ok (.return_, 1) := dz_177 (kin0 (p := 21) kRcX1_putDayOfFeast_eq rfl)
def kCcX1_oneIf_0 : List Nat := [26, 153, 0, 7, 4, 167, 0, 4, 3, 172]
theorem kRcX1_oneIf_eq : cX1_oneIf.data.toList.map UInt8.toNat = kCcX1_oneIf_0 := by decide +kernel
theorem dX1_oneIf_0 : decode cX1_oneIf 0 = .ok (.iload_n 0, 1) := dz_26 (kin0 (p := 0) kRcX1_oneIf_eq rfl)
theorem dX1_oneIf_1 : decode cX1_oneIf 1 = .ok (.ifCond .eq 7, 3) := dz_153 (kin0 (p := 1) kRcX1_oneIf_eq rfl) (kin0 (p := 2) kRcX1_oneIf_eq rfl) (kin0 (p := 3) kRcX1_oneIf_eq rfl) rfl
theorem dX1_oneIf_4 : decode cX1_oneIf 4 = .ok (.iconst 1, 1) := dz_4 (kin0 (p := 4) kRcX1_oneIf_eq rfl)
theorem dX1_oneIf_5 : decode cX1_oneIf 5 = .ok (.goto 4, 3) := dz_167 (kin0 (p := 5) kRcX1_oneIf_eq rfl) (kin0 (p := 6) kRcX1_oneIf_eq rfl) (kin0 (p := 7) kRcX1_oneIf_eq rfl) rfl
theorem dX1_oneIf_8 : decode cX1_oneIf 8 = .ok (.iconst 0, 1) := dz_3 (kin0 (p := 8) kRcX1_oneIf_eq rfl)
theorem dX1_oneIf_9 : decode cX1_oneIf 9 = .ok (.ireturn, 1) := dz_172 (kin0 (p := 9) kRcX1_oneIf_eq rfl)
def kCcX1_orderTold_0 : List Nat := [21, 4, 171, 0, 0, 0, 0, 66, 0, 0, 0, 2, 0, 0, 0, 0, 0, 0, 0, 26, 0, 0, 0, 1, 0, 0, 0, 51, 30, 32, 148, 156]
def kCcX1_orderTold_1 : List Nat := [0, 7, 2, 167, 0, 17, 30, 32, 148, 158, 0, 7, 4, 167, 0, 4, 3, 184, 0, 92, 172, 30, 32, 148, 156, 0, 7, 4, 167, 0, 4, 3]
def kCcX1_orderTold_2 : List Nat := [184, 0, 92, 172, 30, 32, 148, 158, 0, 7, 4, 167, 0, 4, 3, 184, 0, 92, 172]
def kRcX1_orderTold_3 : List Nat := []
def kRcX1_orderTold_2 : List Nat := kCcX1_orderTold_2 ++ kRcX1_orderTold_3
def kRcX1_orderTold_1 : List Nat := kCcX1_orderTold_1 ++ kRcX1_orderTold_2
def kRcX1_orderTold_0 : List Nat := kCcX1_orderTold_0 ++ kRcX1_orderTold_1
theorem kRcX1_orderTold_eq : cX1_orderTold.data.toList.map UInt8.toNat = kRcX1_orderTold_0 := by decide +kernel
theorem katcX1_orderTold_0 (i : Nat) : (cX1_orderTold.data.toList.map UInt8.toNat)[0 + i]? = kRcX1_orderTold_0[i]? := by rw [kRcX1_orderTold_eq, Nat.zero_add]
theorem katcX1_orderTold_1 : ∀ i : Nat, (cX1_orderTold.data.toList.map UInt8.toNat)[32 + i]? = kRcX1_orderTold_1[i]? := kstep katcX1_orderTold_0 (C := kCcX1_orderTold_0) rfl rfl
theorem katcX1_orderTold_2 : ∀ i : Nat, (cX1_orderTold.data.toList.map UInt8.toNat)[64 + i]? = kRcX1_orderTold_2[i]? := kstep katcX1_orderTold_1 (C := kCcX1_orderTold_1) rfl rfl
theorem kBcX1_orderTold_0 {b : Nat} (p : Nat) (hp : Nat.ble 0 p = true) (h : kCcX1_orderTold_0[p - 0]? = some b) : kb cX1_orderTold p b := kin katcX1_orderTold_0 rfl hp h
theorem kBcX1_orderTold_1 {b : Nat} (p : Nat) (hp : Nat.ble 32 p = true) (h : kCcX1_orderTold_1[p - 32]? = some b) : kb cX1_orderTold p b := kin katcX1_orderTold_1 rfl hp h
theorem kBcX1_orderTold_2 {b : Nat} (p : Nat) (hp : Nat.ble 64 p = true) (h : kCcX1_orderTold_2[p - 64]? = some b) : kb cX1_orderTold p b := kin katcX1_orderTold_2 rfl hp h
theorem dX1_orderTold_0 : decode cX1_orderTold 0 = .ok (.iload 4, 2) := dz_21 (kBcX1_orderTold_0 0 rfl rfl) (kBcX1_orderTold_0 1 rfl rfl)
theorem dX1_orderTold_2 : decode cX1_orderTold 2 = .ok (.lookupswitch 66 #[(0, 26), (1, 51)], 26) := by decide +kernel
theorem dX1_orderTold_28 : decode cX1_orderTold 28 = .ok (.lload_n 0, 1) := dz_30 (kBcX1_orderTold_0 28 rfl rfl)
theorem dX1_orderTold_29 : decode cX1_orderTold 29 = .ok (.lload_n 2, 1) := dz_32 (kBcX1_orderTold_0 29 rfl rfl)
theorem dX1_orderTold_30 : decode cX1_orderTold 30 = .ok (.lcmp, 1) := dz_148 (kBcX1_orderTold_0 30 rfl rfl)
theorem dX1_orderTold_31 : decode cX1_orderTold 31 = .ok (.ifCond .ge 7, 3) := dz_156 (kBcX1_orderTold_0 31 rfl rfl) (kBcX1_orderTold_1 32 rfl rfl) (kBcX1_orderTold_1 33 rfl rfl) rfl
theorem dX1_orderTold_34 : decode cX1_orderTold 34 = .ok (.iconst (-1), 1) := dz_2 (kBcX1_orderTold_1 34 rfl rfl)
theorem dX1_orderTold_35 : decode cX1_orderTold 35 = .ok (.goto 17, 3) := dz_167 (kBcX1_orderTold_1 35 rfl rfl) (kBcX1_orderTold_1 36 rfl rfl) (kBcX1_orderTold_1 37 rfl rfl) rfl
theorem dX1_orderTold_38 : decode cX1_orderTold 38 = .ok (.lload_n 0, 1) := dz_30 (kBcX1_orderTold_1 38 rfl rfl)
theorem dX1_orderTold_39 : decode cX1_orderTold 39 = .ok (.lload_n 2, 1) := dz_32 (kBcX1_orderTold_1 39 rfl rfl)
theorem dX1_orderTold_40 : decode cX1_orderTold 40 = .ok (.lcmp, 1) := dz_148 (kBcX1_orderTold_1 40 rfl rfl)
theorem dX1_orderTold_41 : decode cX1_orderTold 41 = .ok (.ifCond .le 7, 3) := dz_158 (kBcX1_orderTold_1 41 rfl rfl) (kBcX1_orderTold_1 42 rfl rfl) (kBcX1_orderTold_1 43 rfl rfl) rfl
theorem dX1_orderTold_44 : decode cX1_orderTold 44 = .ok (.iconst 1, 1) := dz_4 (kBcX1_orderTold_1 44 rfl rfl)
theorem dX1_orderTold_45 : decode cX1_orderTold 45 = .ok (.goto 4, 3) := dz_167 (kBcX1_orderTold_1 45 rfl rfl) (kBcX1_orderTold_1 46 rfl rfl) (kBcX1_orderTold_1 47 rfl rfl) rfl
theorem dX1_orderTold_48 : decode cX1_orderTold 48 = .ok (.iconst 0, 1) := dz_3 (kBcX1_orderTold_1 48 rfl rfl)
theorem dX1_orderTold_49 : decode cX1_orderTold 49 = .ok (.invokestatic 92, 3) := dz_184 (kBcX1_orderTold_1 49 rfl rfl) (kBcX1_orderTold_1 50 rfl rfl) (kBcX1_orderTold_1 51 rfl rfl) rfl
theorem dX1_orderTold_52 : decode cX1_orderTold 52 = .ok (.ireturn, 1) := dz_172 (kBcX1_orderTold_1 52 rfl rfl)
theorem dX1_orderTold_53 : decode cX1_orderTold 53 = .ok (.lload_n 0, 1) := dz_30 (kBcX1_orderTold_1 53 rfl rfl)
theorem dX1_orderTold_54 : decode cX1_orderTold 54 = .ok (.lload_n 2, 1) := dz_32 (kBcX1_orderTold_1 54 rfl rfl)
theorem dX1_orderTold_55 : decode cX1_orderTold 55 = .ok (.lcmp, 1) := dz_148 (kBcX1_orderTold_1 55 rfl rfl)
theorem dX1_orderTold_56 : decode cX1_orderTold 56 = .ok (.ifCond .ge 7, 3) := dz_156 (kBcX1_orderTold_1 56 rfl rfl) (kBcX1_orderTold_1 57 rfl rfl) (kBcX1_orderTold_1 58 rfl rfl) rfl
theorem dX1_orderTold_59 : decode cX1_orderTold 59 = .ok (.iconst 1, 1) := dz_4 (kBcX1_orderTold_1 59 rfl rfl)
theorem dX1_orderTold_60 : decode cX1_orderTold 60 = .ok (.goto 4, 3) := dz_167 (kBcX1_orderTold_1 60 rfl rfl) (kBcX1_orderTold_1 61 rfl rfl) (kBcX1_orderTold_1 62 rfl rfl) rfl
theorem dX1_orderTold_63 : decode cX1_orderTold 63 = .ok (.iconst 0, 1) := dz_3 (kBcX1_orderTold_1 63 rfl rfl)
theorem dX1_orderTold_64 : decode cX1_orderTold 64 = .ok (.invokestatic 92, 3) := dz_184 (kBcX1_orderTold_2 64 rfl rfl) (kBcX1_orderTold_2 65 rfl rfl) (kBcX1_orderTold_2 66 rfl rfl) rfl
theorem dX1_orderTold_67 : decode cX1_orderTold 67 = .ok (.ireturn, 1) := dz_172 (kBcX1_orderTold_2 67 rfl rfl)
theorem dX1_orderTold_68 : decode cX1_orderTold 68 = .ok (.lload_n 0, 1) := dz_30 (kBcX1_orderTold_2 68 rfl rfl)
theorem dX1_orderTold_69 : decode cX1_orderTold 69 = .ok (.lload_n 2, 1) := dz_32 (kBcX1_orderTold_2 69 rfl rfl)
theorem dX1_orderTold_70 : decode cX1_orderTold 70 = .ok (.lcmp, 1) := dz_148 (kBcX1_orderTold_2 70 rfl rfl)
theorem dX1_orderTold_71 : decode cX1_orderTold 71 = .ok (.ifCond .le 7, 3) := dz_158 (kBcX1_orderTold_2 71 rfl rfl) (kBcX1_orderTold_2 72 rfl rfl) (kBcX1_orderTold_2 73 rfl rfl) rfl
theorem dX1_orderTold_74 : decode cX1_orderTold 74 = .ok (.iconst 1, 1) := dz_4 (kBcX1_orderTold_2 74 rfl rfl)
theorem dX1_orderTold_75 : decode cX1_orderTold 75 = .ok (.goto 4, 3) := dz_167 (kBcX1_orderTold_2 75 rfl rfl) (kBcX1_orderTold_2 76 rfl rfl) (kBcX1_orderTold_2 77 rfl rfl) rfl
theorem dX1_orderTold_78 : decode cX1_orderTold 78 = .ok (.iconst 0, 1) := dz_3 (kBcX1_orderTold_2 78 rfl rfl)
theorem dX1_orderTold_79 : decode cX1_orderTold 79 = .ok (.invokestatic 92, 3) := dz_184 (kBcX1_orderTold_2 79 rfl rfl) (kBcX1_orderTold_2 80 rfl rfl) (kBcX1_orderTold_2 81 rfl rfl) rfl
theorem dX1_orderTold_82 : decode cX1_orderTold 82 = .ok (.ireturn, 1) := dz_172 (kBcX1_orderTold_2 82 rfl rfl)
def kCcX1_unitsToLeaf_0 : List Nat := [42, 180, 0, 9, 28, 47, 42, 180, 0, 9, 27, 47, 101, 29, 184, 0, 179, 173]
theorem kRcX1_unitsToLeaf_eq : cX1_unitsToLeaf.data.toList.map UInt8.toNat = kCcX1_unitsToLeaf_0 := by decide +kernel
theorem dX1_unitsToLeaf_0 : decode cX1_unitsToLeaf 0 = .ok (.aload_n 0, 1) := dz_42 (kin0 (p := 0) kRcX1_unitsToLeaf_eq rfl)
theorem dX1_unitsToLeaf_1 : decode cX1_unitsToLeaf 1 = .ok (.getfield 9, 3) := dz_180 (kin0 (p := 1) kRcX1_unitsToLeaf_eq rfl) (kin0 (p := 2) kRcX1_unitsToLeaf_eq rfl) (kin0 (p := 3) kRcX1_unitsToLeaf_eq rfl) rfl
theorem dX1_unitsToLeaf_4 : decode cX1_unitsToLeaf 4 = .ok (.iload_n 2, 1) := dz_28 (kin0 (p := 4) kRcX1_unitsToLeaf_eq rfl)
theorem dX1_unitsToLeaf_5 : decode cX1_unitsToLeaf 5 = .ok (.laload, 1) := dz_47 (kin0 (p := 5) kRcX1_unitsToLeaf_eq rfl)
theorem dX1_unitsToLeaf_6 : decode cX1_unitsToLeaf 6 = .ok (.aload_n 0, 1) := dz_42 (kin0 (p := 6) kRcX1_unitsToLeaf_eq rfl)
theorem dX1_unitsToLeaf_7 : decode cX1_unitsToLeaf 7 = .ok (.getfield 9, 3) := dz_180 (kin0 (p := 7) kRcX1_unitsToLeaf_eq rfl) (kin0 (p := 8) kRcX1_unitsToLeaf_eq rfl) (kin0 (p := 9) kRcX1_unitsToLeaf_eq rfl) rfl
theorem dX1_unitsToLeaf_10 : decode cX1_unitsToLeaf 10 = .ok (.iload_n 1, 1) := dz_27 (kin0 (p := 10) kRcX1_unitsToLeaf_eq rfl)
theorem dX1_unitsToLeaf_11 : decode cX1_unitsToLeaf 11 = .ok (.laload, 1) := dz_47 (kin0 (p := 11) kRcX1_unitsToLeaf_eq rfl)
theorem dX1_unitsToLeaf_12 : decode cX1_unitsToLeaf 12 = .ok (.lsub, 1) := dz_101 (kin0 (p := 12) kRcX1_unitsToLeaf_eq rfl)
theorem dX1_unitsToLeaf_13 : decode cX1_unitsToLeaf 13 = .ok (.iload_n 3, 1) := dz_29 (kin0 (p := 13) kRcX1_unitsToLeaf_eq rfl)
theorem dX1_unitsToLeaf_14 : decode cX1_unitsToLeaf 14 = .ok (.invokestatic 179, 3) := dz_184 (kin0 (p := 14) kRcX1_unitsToLeaf_eq rfl) (kin0 (p := 15) kRcX1_unitsToLeaf_eq rfl) (kin0 (p := 16) kRcX1_unitsToLeaf_eq rfl) rfl
theorem dX1_unitsToLeaf_17 : decode cX1_unitsToLeaf 17 = .ok (.lreturn, 1) := dz_173 (kin0 (p := 17) kRcX1_unitsToLeaf_eq rfl)
def kCcX1_feastRank_0 : List Nat := [42, 180, 0, 17, 27, 46, 16, 32, 104, 42, 180, 0, 20, 27, 46, 96, 172]
theorem kRcX1_feastRank_eq : cX1_feastRank.data.toList.map UInt8.toNat = kCcX1_feastRank_0 := by decide +kernel
theorem dX1_feastRank_0 : decode cX1_feastRank 0 = .ok (.aload_n 0, 1) := dz_42 (kin0 (p := 0) kRcX1_feastRank_eq rfl)
theorem dX1_feastRank_1 : decode cX1_feastRank 1 = .ok (.getfield 17, 3) := dz_180 (kin0 (p := 1) kRcX1_feastRank_eq rfl) (kin0 (p := 2) kRcX1_feastRank_eq rfl) (kin0 (p := 3) kRcX1_feastRank_eq rfl) rfl
theorem dX1_feastRank_4 : decode cX1_feastRank 4 = .ok (.iload_n 1, 1) := dz_27 (kin0 (p := 4) kRcX1_feastRank_eq rfl)
theorem dX1_feastRank_5 : decode cX1_feastRank 5 = .ok (.iaload, 1) := dz_46 (kin0 (p := 5) kRcX1_feastRank_eq rfl)
theorem dX1_feastRank_6 : decode cX1_feastRank 6 = .ok (.bipush 32, 2) := dz_16 (kin0 (p := 6) kRcX1_feastRank_eq rfl) (kin0 (p := 7) kRcX1_feastRank_eq rfl) rfl
theorem dX1_feastRank_8 : decode cX1_feastRank 8 = .ok (.imul, 1) := dz_104 (kin0 (p := 8) kRcX1_feastRank_eq rfl)
theorem dX1_feastRank_9 : decode cX1_feastRank 9 = .ok (.aload_n 0, 1) := dz_42 (kin0 (p := 9) kRcX1_feastRank_eq rfl)
theorem dX1_feastRank_10 : decode cX1_feastRank 10 = .ok (.getfield 20, 3) := dz_180 (kin0 (p := 10) kRcX1_feastRank_eq rfl) (kin0 (p := 11) kRcX1_feastRank_eq rfl) (kin0 (p := 12) kRcX1_feastRank_eq rfl) rfl
theorem dX1_feastRank_13 : decode cX1_feastRank 13 = .ok (.iload_n 1, 1) := dz_27 (kin0 (p := 13) kRcX1_feastRank_eq rfl)
theorem dX1_feastRank_14 : decode cX1_feastRank 14 = .ok (.iaload, 1) := dz_46 (kin0 (p := 14) kRcX1_feastRank_eq rfl)
theorem dX1_feastRank_15 : decode cX1_feastRank 15 = .ok (.iadd, 1) := dz_96 (kin0 (p := 15) kRcX1_feastRank_eq rfl)
theorem dX1_feastRank_16 : decode cX1_feastRank 16 = .ok (.ireturn, 1) := dz_172 (kin0 (p := 16) kRcX1_feastRank_eq rfl)
def kCcX1_isFeastIn_0 : List Nat := [42, 180, 0, 17, 27, 46, 42, 180, 0, 20, 27, 46, 184, 0, 111, 154, 0, 11, 28, 133, 184, 0, 145, 153, 0, 7, 4, 167, 0, 4, 3, 172]
theorem kRcX1_isFeastIn_eq : cX1_isFeastIn.data.toList.map UInt8.toNat = kCcX1_isFeastIn_0 := by decide +kernel
theorem dX1_isFeastIn_0 : decode cX1_isFeastIn 0 = .ok (.aload_n 0, 1) := dz_42 (kin0 (p := 0) kRcX1_isFeastIn_eq rfl)
theorem dX1_isFeastIn_1 : decode cX1_isFeastIn 1 = .ok (.getfield 17, 3) := dz_180 (kin0 (p := 1) kRcX1_isFeastIn_eq rfl) (kin0 (p := 2) kRcX1_isFeastIn_eq rfl) (kin0 (p := 3) kRcX1_isFeastIn_eq rfl) rfl
theorem dX1_isFeastIn_4 : decode cX1_isFeastIn 4 = .ok (.iload_n 1, 1) := dz_27 (kin0 (p := 4) kRcX1_isFeastIn_eq rfl)
theorem dX1_isFeastIn_5 : decode cX1_isFeastIn 5 = .ok (.iaload, 1) := dz_46 (kin0 (p := 5) kRcX1_isFeastIn_eq rfl)
theorem dX1_isFeastIn_6 : decode cX1_isFeastIn 6 = .ok (.aload_n 0, 1) := dz_42 (kin0 (p := 6) kRcX1_isFeastIn_eq rfl)
theorem dX1_isFeastIn_7 : decode cX1_isFeastIn 7 = .ok (.getfield 20, 3) := dz_180 (kin0 (p := 7) kRcX1_isFeastIn_eq rfl) (kin0 (p := 8) kRcX1_isFeastIn_eq rfl) (kin0 (p := 9) kRcX1_isFeastIn_eq rfl) rfl
theorem dX1_isFeastIn_10 : decode cX1_isFeastIn 10 = .ok (.iload_n 1, 1) := dz_27 (kin0 (p := 10) kRcX1_isFeastIn_eq rfl)
theorem dX1_isFeastIn_11 : decode cX1_isFeastIn 11 = .ok (.iaload, 1) := dz_46 (kin0 (p := 11) kRcX1_isFeastIn_eq rfl)
theorem dX1_isFeastIn_12 : decode cX1_isFeastIn 12 = .ok (.invokestatic 111, 3) := dz_184 (kin0 (p := 12) kRcX1_isFeastIn_eq rfl) (kin0 (p := 13) kRcX1_isFeastIn_eq rfl) (kin0 (p := 14) kRcX1_isFeastIn_eq rfl) rfl
theorem dX1_isFeastIn_15 : decode cX1_isFeastIn 15 = .ok (.ifCond .ne 11, 3) := dz_154 (kin0 (p := 15) kRcX1_isFeastIn_eq rfl) (kin0 (p := 16) kRcX1_isFeastIn_eq rfl) (kin0 (p := 17) kRcX1_isFeastIn_eq rfl) rfl
theorem dX1_isFeastIn_18 : decode cX1_isFeastIn 18 = .ok (.iload_n 2, 1) := dz_28 (kin0 (p := 18) kRcX1_isFeastIn_eq rfl)
theorem dX1_isFeastIn_19 : decode cX1_isFeastIn 19 = .ok (.i2l, 1) := dz_133 (kin0 (p := 19) kRcX1_isFeastIn_eq rfl)
theorem dX1_isFeastIn_20 : decode cX1_isFeastIn 20 = .ok (.invokestatic 145, 3) := dz_184 (kin0 (p := 20) kRcX1_isFeastIn_eq rfl) (kin0 (p := 21) kRcX1_isFeastIn_eq rfl) (kin0 (p := 22) kRcX1_isFeastIn_eq rfl) rfl
theorem dX1_isFeastIn_23 : decode cX1_isFeastIn 23 = .ok (.ifCond .eq 7, 3) := dz_153 (kin0 (p := 23) kRcX1_isFeastIn_eq rfl) (kin0 (p := 24) kRcX1_isFeastIn_eq rfl) (kin0 (p := 25) kRcX1_isFeastIn_eq rfl) rfl
theorem dX1_isFeastIn_26 : decode cX1_isFeastIn 26 = .ok (.iconst 1, 1) := dz_4 (kin0 (p := 26) kRcX1_isFeastIn_eq rfl)
theorem dX1_isFeastIn_27 : decode cX1_isFeastIn 27 = .ok (.goto 4, 3) := dz_167 (kin0 (p := 27) kRcX1_isFeastIn_eq rfl) (kin0 (p := 28) kRcX1_isFeastIn_eq rfl) (kin0 (p := 29) kRcX1_isFeastIn_eq rfl) rfl
theorem dX1_isFeastIn_30 : decode cX1_isFeastIn 30 = .ok (.iconst 0, 1) := dz_3 (kin0 (p := 30) kRcX1_isFeastIn_eq rfl)
theorem dX1_isFeastIn_31 : decode cX1_isFeastIn 31 = .ok (.ireturn, 1) := dz_172 (kin0 (p := 31) kRcX1_isFeastIn_eq rfl)
def kCcX1_dayOfFeastIn_0 : List Nat := [42, 27, 28, 182, 0, 176, 153, 0, 12, 42, 180, 0, 20, 27, 46, 167, 0, 5, 16, 28, 172]
theorem kRcX1_dayOfFeastIn_eq : cX1_dayOfFeastIn.data.toList.map UInt8.toNat = kCcX1_dayOfFeastIn_0 := by decide +kernel
theorem dX1_dayOfFeastIn_0 : decode cX1_dayOfFeastIn 0 = .ok (.aload_n 0, 1) := dz_42 (kin0 (p := 0) kRcX1_dayOfFeastIn_eq rfl)
theorem dX1_dayOfFeastIn_1 : decode cX1_dayOfFeastIn 1 = .ok (.iload_n 1, 1) := dz_27 (kin0 (p := 1) kRcX1_dayOfFeastIn_eq rfl)
theorem dX1_dayOfFeastIn_2 : decode cX1_dayOfFeastIn 2 = .ok (.iload_n 2, 1) := dz_28 (kin0 (p := 2) kRcX1_dayOfFeastIn_eq rfl)
theorem dX1_dayOfFeastIn_3 : decode cX1_dayOfFeastIn 3 = .ok (.invokevirtual 176, 3) := dz_182 (kin0 (p := 3) kRcX1_dayOfFeastIn_eq rfl) (kin0 (p := 4) kRcX1_dayOfFeastIn_eq rfl) (kin0 (p := 5) kRcX1_dayOfFeastIn_eq rfl) rfl
theorem dX1_dayOfFeastIn_6 : decode cX1_dayOfFeastIn 6 = .ok (.ifCond .eq 12, 3) := dz_153 (kin0 (p := 6) kRcX1_dayOfFeastIn_eq rfl) (kin0 (p := 7) kRcX1_dayOfFeastIn_eq rfl) (kin0 (p := 8) kRcX1_dayOfFeastIn_eq rfl) rfl
theorem dX1_dayOfFeastIn_9 : decode cX1_dayOfFeastIn 9 = .ok (.aload_n 0, 1) := dz_42 (kin0 (p := 9) kRcX1_dayOfFeastIn_eq rfl)
theorem dX1_dayOfFeastIn_10 : decode cX1_dayOfFeastIn 10 = .ok (.getfield 20, 3) := dz_180 (kin0 (p := 10) kRcX1_dayOfFeastIn_eq rfl) (kin0 (p := 11) kRcX1_dayOfFeastIn_eq rfl) (kin0 (p := 12) kRcX1_dayOfFeastIn_eq rfl) rfl
theorem dX1_dayOfFeastIn_13 : decode cX1_dayOfFeastIn 13 = .ok (.iload_n 1, 1) := dz_27 (kin0 (p := 13) kRcX1_dayOfFeastIn_eq rfl)
theorem dX1_dayOfFeastIn_14 : decode cX1_dayOfFeastIn 14 = .ok (.iaload, 1) := dz_46 (kin0 (p := 14) kRcX1_dayOfFeastIn_eq rfl)
theorem dX1_dayOfFeastIn_15 : decode cX1_dayOfFeastIn 15 = .ok (.goto 5, 3) := dz_167 (kin0 (p := 15) kRcX1_dayOfFeastIn_eq rfl) (kin0 (p := 16) kRcX1_dayOfFeastIn_eq rfl) (kin0 (p := 17) kRcX1_dayOfFeastIn_eq rfl) rfl
theorem dX1_dayOfFeastIn_18 : decode cX1_dayOfFeastIn 18 = .ok (.bipush 28, 2) := dz_16 (kin0 (p := 18) kRcX1_dayOfFeastIn_eq rfl) (kin0 (p := 19) kRcX1_dayOfFeastIn_eq rfl) rfl
theorem dX1_dayOfFeastIn_20 : decode cX1_dayOfFeastIn 20 = .ok (.ireturn, 1) := dz_172 (kin0 (p := 20) kRcX1_dayOfFeastIn_eq rfl)
def kCcX1_numberOfFeastIn_0 : List Nat := [28, 42, 180, 0, 17, 27, 46, 184, 0, 50, 42, 27, 28, 182, 1, 6, 184, 1, 9, 173]
theorem kRcX1_numberOfFeastIn_eq : cX1_numberOfFeastIn.data.toList.map UInt8.toNat = kCcX1_numberOfFeastIn_0 := by decide +kernel
theorem dX1_numberOfFeastIn_0 : decode cX1_numberOfFeastIn 0 = .ok (.iload_n 2, 1) := dz_28 (kin0 (p := 0) kRcX1_numberOfFeastIn_eq rfl)
theorem dX1_numberOfFeastIn_1 : decode cX1_numberOfFeastIn 1 = .ok (.aload_n 0, 1) := dz_42 (kin0 (p := 1) kRcX1_numberOfFeastIn_eq rfl)
theorem dX1_numberOfFeastIn_2 : decode cX1_numberOfFeastIn 2 = .ok (.getfield 17, 3) := dz_180 (kin0 (p := 2) kRcX1_numberOfFeastIn_eq rfl) (kin0 (p := 3) kRcX1_numberOfFeastIn_eq rfl) (kin0 (p := 4) kRcX1_numberOfFeastIn_eq rfl) rfl
theorem dX1_numberOfFeastIn_5 : decode cX1_numberOfFeastIn 5 = .ok (.iload_n 1, 1) := dz_27 (kin0 (p := 5) kRcX1_numberOfFeastIn_eq rfl)
theorem dX1_numberOfFeastIn_6 : decode cX1_numberOfFeastIn 6 = .ok (.iaload, 1) := dz_46 (kin0 (p := 6) kRcX1_numberOfFeastIn_eq rfl)
theorem dX1_numberOfFeastIn_7 : decode cX1_numberOfFeastIn 7 = .ok (.invokestatic 50, 3) := dz_184 (kin0 (p := 7) kRcX1_numberOfFeastIn_eq rfl) (kin0 (p := 8) kRcX1_numberOfFeastIn_eq rfl) (kin0 (p := 9) kRcX1_numberOfFeastIn_eq rfl) rfl
theorem dX1_numberOfFeastIn_10 : decode cX1_numberOfFeastIn 10 = .ok (.aload_n 0, 1) := dz_42 (kin0 (p := 10) kRcX1_numberOfFeastIn_eq rfl)
theorem dX1_numberOfFeastIn_11 : decode cX1_numberOfFeastIn 11 = .ok (.iload_n 1, 1) := dz_27 (kin0 (p := 11) kRcX1_numberOfFeastIn_eq rfl)
theorem dX1_numberOfFeastIn_12 : decode cX1_numberOfFeastIn 12 = .ok (.iload_n 2, 1) := dz_28 (kin0 (p := 12) kRcX1_numberOfFeastIn_eq rfl)
theorem dX1_numberOfFeastIn_13 : decode cX1_numberOfFeastIn 13 = .ok (.invokevirtual 262, 3) := dz_182 (kin0 (p := 13) kRcX1_numberOfFeastIn_eq rfl) (kin0 (p := 14) kRcX1_numberOfFeastIn_eq rfl) (kin0 (p := 15) kRcX1_numberOfFeastIn_eq rfl) rfl
theorem dX1_numberOfFeastIn_16 : decode cX1_numberOfFeastIn 16 = .ok (.invokestatic 265, 3) := dz_184 (kin0 (p := 16) kRcX1_numberOfFeastIn_eq rfl) (kin0 (p := 17) kRcX1_numberOfFeastIn_eq rfl) (kin0 (p := 18) kRcX1_numberOfFeastIn_eq rfl) rfl
theorem dX1_numberOfFeastIn_19 : decode cX1_numberOfFeastIn 19 = .ok (.lreturn, 1) := dz_173 (kin0 (p := 19) kRcX1_numberOfFeastIn_eq rfl)
def kCcX1_dayNumberAt_0 : List Nat := [42, 180, 0, 23, 27, 47, 42, 180, 0, 26, 27, 46, 184, 1, 9, 173]
theorem kRcX1_dayNumberAt_eq : cX1_dayNumberAt.data.toList.map UInt8.toNat = kCcX1_dayNumberAt_0 := by decide +kernel
theorem dX1_dayNumberAt_0 : decode cX1_dayNumberAt 0 = .ok (.aload_n 0, 1) := dz_42 (kin0 (p := 0) kRcX1_dayNumberAt_eq rfl)
theorem dX1_dayNumberAt_1 : decode cX1_dayNumberAt 1 = .ok (.getfield 23, 3) := dz_180 (kin0 (p := 1) kRcX1_dayNumberAt_eq rfl) (kin0 (p := 2) kRcX1_dayNumberAt_eq rfl) (kin0 (p := 3) kRcX1_dayNumberAt_eq rfl) rfl
theorem dX1_dayNumberAt_4 : decode cX1_dayNumberAt 4 = .ok (.iload_n 1, 1) := dz_27 (kin0 (p := 4) kRcX1_dayNumberAt_eq rfl)
theorem dX1_dayNumberAt_5 : decode cX1_dayNumberAt 5 = .ok (.laload, 1) := dz_47 (kin0 (p := 5) kRcX1_dayNumberAt_eq rfl)
theorem dX1_dayNumberAt_6 : decode cX1_dayNumberAt 6 = .ok (.aload_n 0, 1) := dz_42 (kin0 (p := 6) kRcX1_dayNumberAt_eq rfl)
theorem dX1_dayNumberAt_7 : decode cX1_dayNumberAt 7 = .ok (.getfield 26, 3) := dz_180 (kin0 (p := 7) kRcX1_dayNumberAt_eq rfl) (kin0 (p := 8) kRcX1_dayNumberAt_eq rfl) (kin0 (p := 9) kRcX1_dayNumberAt_eq rfl) rfl
theorem dX1_dayNumberAt_10 : decode cX1_dayNumberAt 10 = .ok (.iload_n 1, 1) := dz_27 (kin0 (p := 10) kRcX1_dayNumberAt_eq rfl)
theorem dX1_dayNumberAt_11 : decode cX1_dayNumberAt 11 = .ok (.iaload, 1) := dz_46 (kin0 (p := 11) kRcX1_dayNumberAt_eq rfl)
theorem dX1_dayNumberAt_12 : decode cX1_dayNumberAt 12 = .ok (.invokestatic 265, 3) := dz_184 (kin0 (p := 12) kRcX1_dayNumberAt_eq rfl) (kin0 (p := 13) kRcX1_dayNumberAt_eq rfl) (kin0 (p := 14) kRcX1_dayNumberAt_eq rfl) rfl
theorem dX1_dayNumberAt_15 : decode cX1_dayNumberAt 15 = .ok (.lreturn, 1) := dz_173 (kin0 (p := 15) kRcX1_dayNumberAt_eq rfl)
def kCcX1_weekdayAt_0 : List Nat := [42, 180, 0, 23, 27, 47, 42, 180, 0, 26, 27, 46, 184, 1, 9, 184, 1, 12, 172]
theorem kRcX1_weekdayAt_eq : cX1_weekdayAt.data.toList.map UInt8.toNat = kCcX1_weekdayAt_0 := by decide +kernel
theorem dX1_weekdayAt_0 : decode cX1_weekdayAt 0 = .ok (.aload_n 0, 1) := dz_42 (kin0 (p := 0) kRcX1_weekdayAt_eq rfl)
theorem dX1_weekdayAt_1 : decode cX1_weekdayAt 1 = .ok (.getfield 23, 3) := dz_180 (kin0 (p := 1) kRcX1_weekdayAt_eq rfl) (kin0 (p := 2) kRcX1_weekdayAt_eq rfl) (kin0 (p := 3) kRcX1_weekdayAt_eq rfl) rfl
theorem dX1_weekdayAt_4 : decode cX1_weekdayAt 4 = .ok (.iload_n 1, 1) := dz_27 (kin0 (p := 4) kRcX1_weekdayAt_eq rfl)
theorem dX1_weekdayAt_5 : decode cX1_weekdayAt 5 = .ok (.laload, 1) := dz_47 (kin0 (p := 5) kRcX1_weekdayAt_eq rfl)
theorem dX1_weekdayAt_6 : decode cX1_weekdayAt 6 = .ok (.aload_n 0, 1) := dz_42 (kin0 (p := 6) kRcX1_weekdayAt_eq rfl)
theorem dX1_weekdayAt_7 : decode cX1_weekdayAt 7 = .ok (.getfield 26, 3) := dz_180 (kin0 (p := 7) kRcX1_weekdayAt_eq rfl) (kin0 (p := 8) kRcX1_weekdayAt_eq rfl) (kin0 (p := 9) kRcX1_weekdayAt_eq rfl) rfl
theorem dX1_weekdayAt_10 : decode cX1_weekdayAt 10 = .ok (.iload_n 1, 1) := dz_27 (kin0 (p := 10) kRcX1_weekdayAt_eq rfl)
theorem dX1_weekdayAt_11 : decode cX1_weekdayAt 11 = .ok (.iaload, 1) := dz_46 (kin0 (p := 11) kRcX1_weekdayAt_eq rfl)
theorem dX1_weekdayAt_12 : decode cX1_weekdayAt 12 = .ok (.invokestatic 265, 3) := dz_184 (kin0 (p := 12) kRcX1_weekdayAt_eq rfl) (kin0 (p := 13) kRcX1_weekdayAt_eq rfl) (kin0 (p := 14) kRcX1_weekdayAt_eq rfl) rfl
theorem dX1_weekdayAt_15 : decode cX1_weekdayAt 15 = .ok (.invokestatic 268, 3) := dz_184 (kin0 (p := 15) kRcX1_weekdayAt_eq rfl) (kin0 (p := 16) kRcX1_weekdayAt_eq rfl) (kin0 (p := 17) kRcX1_weekdayAt_eq rfl) rfl
theorem dX1_weekdayAt_18 : decode cX1_weekdayAt 18 = .ok (.ireturn, 1) := dz_172 (kin0 (p := 18) kRcX1_weekdayAt_eq rfl)
def kCcX1_isLastOfMonth_0 : List Nat := [42, 180, 0, 26, 27, 46, 42, 180, 0, 23, 27, 47, 184, 0, 139, 160, 0, 7, 4, 167, 0, 4, 3, 172]
theorem kRcX1_isLastOfMonth_eq : cX1_isLastOfMonth.data.toList.map UInt8.toNat = kCcX1_isLastOfMonth_0 := by decide +kernel
theorem dX1_isLastOfMonth_0 : decode cX1_isLastOfMonth 0 = .ok (.aload_n 0, 1) := dz_42 (kin0 (p := 0) kRcX1_isLastOfMonth_eq rfl)
theorem dX1_isLastOfMonth_1 : decode cX1_isLastOfMonth 1 = .ok (.getfield 26, 3) := dz_180 (kin0 (p := 1) kRcX1_isLastOfMonth_eq rfl) (kin0 (p := 2) kRcX1_isLastOfMonth_eq rfl) (kin0 (p := 3) kRcX1_isLastOfMonth_eq rfl) rfl
theorem dX1_isLastOfMonth_4 : decode cX1_isLastOfMonth 4 = .ok (.iload_n 1, 1) := dz_27 (kin0 (p := 4) kRcX1_isLastOfMonth_eq rfl)
theorem dX1_isLastOfMonth_5 : decode cX1_isLastOfMonth 5 = .ok (.iaload, 1) := dz_46 (kin0 (p := 5) kRcX1_isLastOfMonth_eq rfl)
theorem dX1_isLastOfMonth_6 : decode cX1_isLastOfMonth 6 = .ok (.aload_n 0, 1) := dz_42 (kin0 (p := 6) kRcX1_isLastOfMonth_eq rfl)
theorem dX1_isLastOfMonth_7 : decode cX1_isLastOfMonth 7 = .ok (.getfield 23, 3) := dz_180 (kin0 (p := 7) kRcX1_isLastOfMonth_eq rfl) (kin0 (p := 8) kRcX1_isLastOfMonth_eq rfl) (kin0 (p := 9) kRcX1_isLastOfMonth_eq rfl) rfl
theorem dX1_isLastOfMonth_10 : decode cX1_isLastOfMonth 10 = .ok (.iload_n 1, 1) := dz_27 (kin0 (p := 10) kRcX1_isLastOfMonth_eq rfl)
theorem dX1_isLastOfMonth_11 : decode cX1_isLastOfMonth 11 = .ok (.laload, 1) := dz_47 (kin0 (p := 11) kRcX1_isLastOfMonth_eq rfl)
theorem dX1_isLastOfMonth_12 : decode cX1_isLastOfMonth 12 = .ok (.invokestatic 139, 3) := dz_184 (kin0 (p := 12) kRcX1_isLastOfMonth_eq rfl) (kin0 (p := 13) kRcX1_isLastOfMonth_eq rfl) (kin0 (p := 14) kRcX1_isLastOfMonth_eq rfl) rfl
theorem dX1_isLastOfMonth_15 : decode cX1_isLastOfMonth 15 = .ok (.if_icmp .ne 7, 3) := dz_160 (kin0 (p := 15) kRcX1_isLastOfMonth_eq rfl) (kin0 (p := 16) kRcX1_isLastOfMonth_eq rfl) (kin0 (p := 17) kRcX1_isLastOfMonth_eq rfl) rfl
theorem dX1_isLastOfMonth_18 : decode cX1_isLastOfMonth 18 = .ok (.iconst 1, 1) := dz_4 (kin0 (p := 18) kRcX1_isLastOfMonth_eq rfl)
theorem dX1_isLastOfMonth_19 : decode cX1_isLastOfMonth 19 = .ok (.goto 4, 3) := dz_167 (kin0 (p := 19) kRcX1_isLastOfMonth_eq rfl) (kin0 (p := 20) kRcX1_isLastOfMonth_eq rfl) (kin0 (p := 21) kRcX1_isLastOfMonth_eq rfl) rfl
theorem dX1_isLastOfMonth_22 : decode cX1_isLastOfMonth 22 = .ok (.iconst 0, 1) := dz_3 (kin0 (p := 22) kRcX1_isLastOfMonth_eq rfl)
theorem dX1_isLastOfMonth_23 : decode cX1_isLastOfMonth 23 = .ok (.ireturn, 1) := dz_172 (kin0 (p := 23) kRcX1_isLastOfMonth_eq rfl)
def kCcX1_isCounted_0 : List Nat := [28, 170, 0, 0, 0, 0, 0, 68, 0, 0, 0, 0, 0, 0, 0, 2, 0, 0, 0, 27, 0, 0, 0, 41, 0, 0, 0, 52, 42, 180, 0, 9]
def kCcX1_isCounted_1 : List Nat := [27, 47, 184, 0, 81, 133, 184, 0, 145, 172, 42, 180, 0, 13, 27, 46, 133, 184, 0, 145, 172, 42, 180, 0, 17, 27, 46, 42, 180, 0, 20, 27]
def kCcX1_isCounted_2 : List Nat := [46, 184, 0, 111, 172, 42, 27, 182, 0, 187, 172]
def kRcX1_isCounted_3 : List Nat := []
def kRcX1_isCounted_2 : List Nat := kCcX1_isCounted_2 ++ kRcX1_isCounted_3
def kRcX1_isCounted_1 : List Nat := kCcX1_isCounted_1 ++ kRcX1_isCounted_2
def kRcX1_isCounted_0 : List Nat := kCcX1_isCounted_0 ++ kRcX1_isCounted_1
theorem kRcX1_isCounted_eq : cX1_isCounted.data.toList.map UInt8.toNat = kRcX1_isCounted_0 := by decide +kernel
theorem katcX1_isCounted_0 (i : Nat) : (cX1_isCounted.data.toList.map UInt8.toNat)[0 + i]? = kRcX1_isCounted_0[i]? := by rw [kRcX1_isCounted_eq, Nat.zero_add]
theorem katcX1_isCounted_1 : ∀ i : Nat, (cX1_isCounted.data.toList.map UInt8.toNat)[32 + i]? = kRcX1_isCounted_1[i]? := kstep katcX1_isCounted_0 (C := kCcX1_isCounted_0) rfl rfl
theorem katcX1_isCounted_2 : ∀ i : Nat, (cX1_isCounted.data.toList.map UInt8.toNat)[64 + i]? = kRcX1_isCounted_2[i]? := kstep katcX1_isCounted_1 (C := kCcX1_isCounted_1) rfl rfl
theorem kBcX1_isCounted_0 {b : Nat} (p : Nat) (hp : Nat.ble 0 p = true) (h : kCcX1_isCounted_0[p - 0]? = some b) : kb cX1_isCounted p b := kin katcX1_isCounted_0 rfl hp h
theorem kBcX1_isCounted_1 {b : Nat} (p : Nat) (hp : Nat.ble 32 p = true) (h : kCcX1_isCounted_1[p - 32]? = some b) : kb cX1_isCounted p b := kin katcX1_isCounted_1 rfl hp h
theorem kBcX1_isCounted_2 {b : Nat} (p : Nat) (hp : Nat.ble 64 p = true) (h : kCcX1_isCounted_2[p - 64]? = some b) : kb cX1_isCounted p b := kin katcX1_isCounted_2 rfl hp h
theorem dX1_isCounted_0 : decode cX1_isCounted 0 = .ok (.iload_n 2, 1) := dz_28 (kBcX1_isCounted_0 0 rfl rfl)
theorem dX1_isCounted_1 : decode cX1_isCounted 1 = .ok (.tableswitch 68 0 2 #[27, 41, 52], 27) := by decide +kernel
theorem dX1_isCounted_28 : decode cX1_isCounted 28 = .ok (.aload_n 0, 1) := dz_42 (kBcX1_isCounted_0 28 rfl rfl)
theorem dX1_isCounted_29 : decode cX1_isCounted 29 = .ok (.getfield 9, 3) := dz_180 (kBcX1_isCounted_0 29 rfl rfl) (kBcX1_isCounted_0 30 rfl rfl) (kBcX1_isCounted_0 31 rfl rfl) rfl
theorem dX1_isCounted_32 : decode cX1_isCounted 32 = .ok (.iload_n 1, 1) := dz_27 (kBcX1_isCounted_1 32 rfl rfl)
theorem dX1_isCounted_33 : decode cX1_isCounted 33 = .ok (.laload, 1) := dz_47 (kBcX1_isCounted_1 33 rfl rfl)
theorem dX1_isCounted_34 : decode cX1_isCounted 34 = .ok (.invokestatic 81, 3) := dz_184 (kBcX1_isCounted_1 34 rfl rfl) (kBcX1_isCounted_1 35 rfl rfl) (kBcX1_isCounted_1 36 rfl rfl) rfl
theorem dX1_isCounted_37 : decode cX1_isCounted 37 = .ok (.i2l, 1) := dz_133 (kBcX1_isCounted_1 37 rfl rfl)
theorem dX1_isCounted_38 : decode cX1_isCounted 38 = .ok (.invokestatic 145, 3) := dz_184 (kBcX1_isCounted_1 38 rfl rfl) (kBcX1_isCounted_1 39 rfl rfl) (kBcX1_isCounted_1 40 rfl rfl) rfl
theorem dX1_isCounted_41 : decode cX1_isCounted 41 = .ok (.ireturn, 1) := dz_172 (kBcX1_isCounted_1 41 rfl rfl)
theorem dX1_isCounted_42 : decode cX1_isCounted 42 = .ok (.aload_n 0, 1) := dz_42 (kBcX1_isCounted_1 42 rfl rfl)
theorem dX1_isCounted_43 : decode cX1_isCounted 43 = .ok (.getfield 13, 3) := dz_180 (kBcX1_isCounted_1 43 rfl rfl) (kBcX1_isCounted_1 44 rfl rfl) (kBcX1_isCounted_1 45 rfl rfl) rfl
theorem dX1_isCounted_46 : decode cX1_isCounted 46 = .ok (.iload_n 1, 1) := dz_27 (kBcX1_isCounted_1 46 rfl rfl)
theorem dX1_isCounted_47 : decode cX1_isCounted 47 = .ok (.iaload, 1) := dz_46 (kBcX1_isCounted_1 47 rfl rfl)
theorem dX1_isCounted_48 : decode cX1_isCounted 48 = .ok (.i2l, 1) := dz_133 (kBcX1_isCounted_1 48 rfl rfl)
theorem dX1_isCounted_49 : decode cX1_isCounted 49 = .ok (.invokestatic 145, 3) := dz_184 (kBcX1_isCounted_1 49 rfl rfl) (kBcX1_isCounted_1 50 rfl rfl) (kBcX1_isCounted_1 51 rfl rfl) rfl
theorem dX1_isCounted_52 : decode cX1_isCounted 52 = .ok (.ireturn, 1) := dz_172 (kBcX1_isCounted_1 52 rfl rfl)
theorem dX1_isCounted_53 : decode cX1_isCounted 53 = .ok (.aload_n 0, 1) := dz_42 (kBcX1_isCounted_1 53 rfl rfl)
theorem dX1_isCounted_54 : decode cX1_isCounted 54 = .ok (.getfield 17, 3) := dz_180 (kBcX1_isCounted_1 54 rfl rfl) (kBcX1_isCounted_1 55 rfl rfl) (kBcX1_isCounted_1 56 rfl rfl) rfl
theorem dX1_isCounted_57 : decode cX1_isCounted 57 = .ok (.iload_n 1, 1) := dz_27 (kBcX1_isCounted_1 57 rfl rfl)
theorem dX1_isCounted_58 : decode cX1_isCounted 58 = .ok (.iaload, 1) := dz_46 (kBcX1_isCounted_1 58 rfl rfl)
theorem dX1_isCounted_59 : decode cX1_isCounted 59 = .ok (.aload_n 0, 1) := dz_42 (kBcX1_isCounted_1 59 rfl rfl)
theorem dX1_isCounted_60 : decode cX1_isCounted 60 = .ok (.getfield 20, 3) := dz_180 (kBcX1_isCounted_1 60 rfl rfl) (kBcX1_isCounted_1 61 rfl rfl) (kBcX1_isCounted_1 62 rfl rfl) rfl
theorem dX1_isCounted_63 : decode cX1_isCounted 63 = .ok (.iload_n 1, 1) := dz_27 (kBcX1_isCounted_1 63 rfl rfl)
theorem dX1_isCounted_64 : decode cX1_isCounted 64 = .ok (.iaload, 1) := dz_46 (kBcX1_isCounted_2 64 rfl rfl)
theorem dX1_isCounted_65 : decode cX1_isCounted 65 = .ok (.invokestatic 111, 3) := dz_184 (kBcX1_isCounted_2 65 rfl rfl) (kBcX1_isCounted_2 66 rfl rfl) (kBcX1_isCounted_2 67 rfl rfl) rfl
theorem dX1_isCounted_68 : decode cX1_isCounted 68 = .ok (.ireturn, 1) := dz_172 (kBcX1_isCounted_2 68 rfl rfl)
theorem dX1_isCounted_69 : decode cX1_isCounted 69 = .ok (.aload_n 0, 1) := dz_42 (kBcX1_isCounted_2 69 rfl rfl)
theorem dX1_isCounted_70 : decode cX1_isCounted 70 = .ok (.iload_n 1, 1) := dz_27 (kBcX1_isCounted_2 70 rfl rfl)
theorem dX1_isCounted_71 : decode cX1_isCounted 71 = .ok (.invokevirtual 187, 3) := dz_182 (kBcX1_isCounted_2 71 rfl rfl) (kBcX1_isCounted_2 72 rfl rfl) (kBcX1_isCounted_2 73 rfl rfl) rfl
theorem dX1_isCounted_74 : decode cX1_isCounted 74 = .ok (.ireturn, 1) := dz_172 (kBcX1_isCounted_2 74 rfl rfl)
def kCcX1_textOf_0 : List Nat := [42, 31, 182, 1, 15, 42, 180, 0, 32, 182, 1, 19, 176]
theorem kRcX1_textOf_eq : cX1_textOf.data.toList.map UInt8.toNat = kCcX1_textOf_0 := by decide +kernel
theorem dX1_textOf_0 : decode cX1_textOf 0 = .ok (.aload_n 0, 1) := dz_42 (kin0 (p := 0) kRcX1_textOf_eq rfl)
theorem dX1_textOf_1 : decode cX1_textOf 1 = .ok (.lload_n 1, 1) := dz_31 (kin0 (p := 1) kRcX1_textOf_eq rfl)
theorem dX1_textOf_2 : decode cX1_textOf 2 = .ok (.invokevirtual 271, 3) := dz_182 (kin0 (p := 2) kRcX1_textOf_eq rfl) (kin0 (p := 3) kRcX1_textOf_eq rfl) (kin0 (p := 4) kRcX1_textOf_eq rfl) rfl
theorem dX1_textOf_5 : decode cX1_textOf 5 = .ok (.aload_n 0, 1) := dz_42 (kin0 (p := 5) kRcX1_textOf_eq rfl)
theorem dX1_textOf_6 : decode cX1_textOf 6 = .ok (.getfield 32, 3) := dz_180 (kin0 (p := 6) kRcX1_textOf_eq rfl) (kin0 (p := 7) kRcX1_textOf_eq rfl) (kin0 (p := 8) kRcX1_textOf_eq rfl) rfl
theorem dX1_textOf_9 : decode cX1_textOf 9 = .ok (.invokevirtual 275, 3) := dz_182 (kin0 (p := 9) kRcX1_textOf_eq rfl) (kin0 (p := 10) kRcX1_textOf_eq rfl) (kin0 (p := 11) kRcX1_textOf_eq rfl) rfl
theorem dX1_textOf_12 : decode cX1_textOf 12 = .ok (.areturn, 1) := dz_176 (kin0 (p := 12) kRcX1_textOf_eq rfl)
def kCcX1_writeText_0 : List Nat := [42, 180, 0, 32, 3, 182, 1, 23, 31, 9, 148, 156, 0, 8, 31, 117, 167, 0, 4, 31, 66, 3, 54, 5, 21, 5, 16, 19, 162, 0, 45, 33]
def kCcX1_writeText_1 : List Nat := [9, 148, 157, 0, 8, 21, 5, 154, 0, 34, 42, 180, 0, 32, 20, 1, 26, 33, 20, 1, 28, 113, 97, 136, 146, 182, 1, 30, 87, 33, 20, 1]
def kCcX1_writeText_2 : List Nat := [28, 109, 66, 132, 5, 1, 167, 255, 210, 31, 9, 148, 156, 0, 13, 42, 180, 0, 32, 16, 45, 182, 1, 30, 87, 42, 180, 0, 32, 182, 1, 34]
def kCcX1_writeText_3 : List Nat := [87, 177]
def kRcX1_writeText_4 : List Nat := []
def kRcX1_writeText_3 : List Nat := kCcX1_writeText_3 ++ kRcX1_writeText_4
def kRcX1_writeText_2 : List Nat := kCcX1_writeText_2 ++ kRcX1_writeText_3
def kRcX1_writeText_1 : List Nat := kCcX1_writeText_1 ++ kRcX1_writeText_2
def kRcX1_writeText_0 : List Nat := kCcX1_writeText_0 ++ kRcX1_writeText_1
theorem kRcX1_writeText_eq : cX1_writeText.data.toList.map UInt8.toNat = kRcX1_writeText_0 := by decide +kernel
theorem katcX1_writeText_0 (i : Nat) : (cX1_writeText.data.toList.map UInt8.toNat)[0 + i]? = kRcX1_writeText_0[i]? := by rw [kRcX1_writeText_eq, Nat.zero_add]
theorem katcX1_writeText_1 : ∀ i : Nat, (cX1_writeText.data.toList.map UInt8.toNat)[32 + i]? = kRcX1_writeText_1[i]? := kstep katcX1_writeText_0 (C := kCcX1_writeText_0) rfl rfl
theorem katcX1_writeText_2 : ∀ i : Nat, (cX1_writeText.data.toList.map UInt8.toNat)[64 + i]? = kRcX1_writeText_2[i]? := kstep katcX1_writeText_1 (C := kCcX1_writeText_1) rfl rfl
theorem katcX1_writeText_3 : ∀ i : Nat, (cX1_writeText.data.toList.map UInt8.toNat)[96 + i]? = kRcX1_writeText_3[i]? := kstep katcX1_writeText_2 (C := kCcX1_writeText_2) rfl rfl
theorem kBcX1_writeText_0 {b : Nat} (p : Nat) (hp : Nat.ble 0 p = true) (h : kCcX1_writeText_0[p - 0]? = some b) : kb cX1_writeText p b := kin katcX1_writeText_0 rfl hp h
theorem kBcX1_writeText_1 {b : Nat} (p : Nat) (hp : Nat.ble 32 p = true) (h : kCcX1_writeText_1[p - 32]? = some b) : kb cX1_writeText p b := kin katcX1_writeText_1 rfl hp h
theorem kBcX1_writeText_2 {b : Nat} (p : Nat) (hp : Nat.ble 64 p = true) (h : kCcX1_writeText_2[p - 64]? = some b) : kb cX1_writeText p b := kin katcX1_writeText_2 rfl hp h
theorem kBcX1_writeText_3 {b : Nat} (p : Nat) (hp : Nat.ble 96 p = true) (h : kCcX1_writeText_3[p - 96]? = some b) : kb cX1_writeText p b := kin katcX1_writeText_3 rfl hp h
theorem dX1_writeText_0 : decode cX1_writeText 0 = .ok (.aload_n 0, 1) := dz_42 (kBcX1_writeText_0 0 rfl rfl)
theorem dX1_writeText_1 : decode cX1_writeText 1 = .ok (.getfield 32, 3) := dz_180 (kBcX1_writeText_0 1 rfl rfl) (kBcX1_writeText_0 2 rfl rfl) (kBcX1_writeText_0 3 rfl rfl) rfl
theorem dX1_writeText_4 : decode cX1_writeText 4 = .ok (.iconst 0, 1) := dz_3 (kBcX1_writeText_0 4 rfl rfl)
theorem dX1_writeText_5 : decode cX1_writeText 5 = .ok (.invokevirtual 279, 3) := dz_182 (kBcX1_writeText_0 5 rfl rfl) (kBcX1_writeText_0 6 rfl rfl) (kBcX1_writeText_0 7 rfl rfl) rfl
theorem dX1_writeText_8 : decode cX1_writeText 8 = .ok (.lload_n 1, 1) := dz_31 (kBcX1_writeText_0 8 rfl rfl)
theorem dX1_writeText_9 : decode cX1_writeText 9 = .ok (.lconst 0, 1) := dz_9 (kBcX1_writeText_0 9 rfl rfl)
theorem dX1_writeText_10 : decode cX1_writeText 10 = .ok (.lcmp, 1) := dz_148 (kBcX1_writeText_0 10 rfl rfl)
theorem dX1_writeText_11 : decode cX1_writeText 11 = .ok (.ifCond .ge 8, 3) := dz_156 (kBcX1_writeText_0 11 rfl rfl) (kBcX1_writeText_0 12 rfl rfl) (kBcX1_writeText_0 13 rfl rfl) rfl
theorem dX1_writeText_14 : decode cX1_writeText 14 = .ok (.lload_n 1, 1) := dz_31 (kBcX1_writeText_0 14 rfl rfl)
theorem dX1_writeText_15 : decode cX1_writeText 15 = .ok (.lneg, 1) := dz_117 (kBcX1_writeText_0 15 rfl rfl)
theorem dX1_writeText_16 : decode cX1_writeText 16 = .ok (.goto 4, 3) := dz_167 (kBcX1_writeText_0 16 rfl rfl) (kBcX1_writeText_0 17 rfl rfl) (kBcX1_writeText_0 18 rfl rfl) rfl
theorem dX1_writeText_19 : decode cX1_writeText 19 = .ok (.lload_n 1, 1) := dz_31 (kBcX1_writeText_0 19 rfl rfl)
theorem dX1_writeText_20 : decode cX1_writeText 20 = .ok (.lstore_n 3, 1) := dz_66 (kBcX1_writeText_0 20 rfl rfl)
theorem dX1_writeText_21 : decode cX1_writeText 21 = .ok (.iconst 0, 1) := dz_3 (kBcX1_writeText_0 21 rfl rfl)
theorem dX1_writeText_22 : decode cX1_writeText 22 = .ok (.istore 5, 2) := dz_54 (kBcX1_writeText_0 22 rfl rfl) (kBcX1_writeText_0 23 rfl rfl)
theorem dX1_writeText_24 : decode cX1_writeText 24 = .ok (.iload 5, 2) := dz_21 (kBcX1_writeText_0 24 rfl rfl) (kBcX1_writeText_0 25 rfl rfl)
theorem dX1_writeText_26 : decode cX1_writeText 26 = .ok (.bipush 19, 2) := dz_16 (kBcX1_writeText_0 26 rfl rfl) (kBcX1_writeText_0 27 rfl rfl) rfl
theorem dX1_writeText_28 : decode cX1_writeText 28 = .ok (.if_icmp .ge 45, 3) := dz_162 (kBcX1_writeText_0 28 rfl rfl) (kBcX1_writeText_0 29 rfl rfl) (kBcX1_writeText_0 30 rfl rfl) rfl
theorem dX1_writeText_31 : decode cX1_writeText 31 = .ok (.lload_n 3, 1) := dz_33 (kBcX1_writeText_0 31 rfl rfl)
theorem dX1_writeText_32 : decode cX1_writeText 32 = .ok (.lconst 0, 1) := dz_9 (kBcX1_writeText_1 32 rfl rfl)
theorem dX1_writeText_33 : decode cX1_writeText 33 = .ok (.lcmp, 1) := dz_148 (kBcX1_writeText_1 33 rfl rfl)
theorem dX1_writeText_34 : decode cX1_writeText 34 = .ok (.ifCond .gt 8, 3) := dz_157 (kBcX1_writeText_1 34 rfl rfl) (kBcX1_writeText_1 35 rfl rfl) (kBcX1_writeText_1 36 rfl rfl) rfl
theorem dX1_writeText_37 : decode cX1_writeText 37 = .ok (.iload 5, 2) := dz_21 (kBcX1_writeText_1 37 rfl rfl) (kBcX1_writeText_1 38 rfl rfl)
theorem dX1_writeText_39 : decode cX1_writeText 39 = .ok (.ifCond .ne 34, 3) := dz_154 (kBcX1_writeText_1 39 rfl rfl) (kBcX1_writeText_1 40 rfl rfl) (kBcX1_writeText_1 41 rfl rfl) rfl
theorem dX1_writeText_42 : decode cX1_writeText 42 = .ok (.aload_n 0, 1) := dz_42 (kBcX1_writeText_1 42 rfl rfl)
theorem dX1_writeText_43 : decode cX1_writeText 43 = .ok (.getfield 32, 3) := dz_180 (kBcX1_writeText_1 43 rfl rfl) (kBcX1_writeText_1 44 rfl rfl) (kBcX1_writeText_1 45 rfl rfl) rfl
theorem dX1_writeText_46 : decode cX1_writeText 46 = .ok (.ldc2_w 282, 3) := dz_20 (kBcX1_writeText_1 46 rfl rfl) (kBcX1_writeText_1 47 rfl rfl) (kBcX1_writeText_1 48 rfl rfl) rfl
theorem dX1_writeText_49 : decode cX1_writeText 49 = .ok (.lload_n 3, 1) := dz_33 (kBcX1_writeText_1 49 rfl rfl)
theorem dX1_writeText_50 : decode cX1_writeText 50 = .ok (.ldc2_w 284, 3) := dz_20 (kBcX1_writeText_1 50 rfl rfl) (kBcX1_writeText_1 51 rfl rfl) (kBcX1_writeText_1 52 rfl rfl) rfl
theorem dX1_writeText_53 : decode cX1_writeText 53 = .ok (.lrem, 1) := dz_113 (kBcX1_writeText_1 53 rfl rfl)
theorem dX1_writeText_54 : decode cX1_writeText 54 = .ok (.ladd, 1) := dz_97 (kBcX1_writeText_1 54 rfl rfl)
theorem dX1_writeText_55 : decode cX1_writeText 55 = .ok (.l2i, 1) := dz_136 (kBcX1_writeText_1 55 rfl rfl)
theorem dX1_writeText_56 : decode cX1_writeText 56 = .ok (.i2c, 1) := dz_146 (kBcX1_writeText_1 56 rfl rfl)
theorem dX1_writeText_57 : decode cX1_writeText 57 = .ok (.invokevirtual 286, 3) := dz_182 (kBcX1_writeText_1 57 rfl rfl) (kBcX1_writeText_1 58 rfl rfl) (kBcX1_writeText_1 59 rfl rfl) rfl
theorem dX1_writeText_60 : decode cX1_writeText 60 = .ok (.pop, 1) := dz_87 (kBcX1_writeText_1 60 rfl rfl)
theorem dX1_writeText_61 : decode cX1_writeText 61 = .ok (.lload_n 3, 1) := dz_33 (kBcX1_writeText_1 61 rfl rfl)
theorem dX1_writeText_62 : decode cX1_writeText 62 = .ok (.ldc2_w 284, 3) := dz_20 (kBcX1_writeText_1 62 rfl rfl) (kBcX1_writeText_1 63 rfl rfl) (kBcX1_writeText_2 64 rfl rfl) rfl
theorem dX1_writeText_65 : decode cX1_writeText 65 = .ok (.ldiv, 1) := dz_109 (kBcX1_writeText_2 65 rfl rfl)
theorem dX1_writeText_66 : decode cX1_writeText 66 = .ok (.lstore_n 3, 1) := dz_66 (kBcX1_writeText_2 66 rfl rfl)
theorem dX1_writeText_67 : decode cX1_writeText 67 = .ok (.iinc 5 1, 3) := dz_132 (kBcX1_writeText_2 67 rfl rfl) (kBcX1_writeText_2 68 rfl rfl) (kBcX1_writeText_2 69 rfl rfl) rfl
theorem dX1_writeText_70 : decode cX1_writeText 70 = .ok (.goto (-46), 3) := dz_167 (kBcX1_writeText_2 70 rfl rfl) (kBcX1_writeText_2 71 rfl rfl) (kBcX1_writeText_2 72 rfl rfl) rfl
theorem dX1_writeText_73 : decode cX1_writeText 73 = .ok (.lload_n 1, 1) := dz_31 (kBcX1_writeText_2 73 rfl rfl)
theorem dX1_writeText_74 : decode cX1_writeText 74 = .ok (.lconst 0, 1) := dz_9 (kBcX1_writeText_2 74 rfl rfl)
theorem dX1_writeText_75 : decode cX1_writeText 75 = .ok (.lcmp, 1) := dz_148 (kBcX1_writeText_2 75 rfl rfl)
theorem dX1_writeText_76 : decode cX1_writeText 76 = .ok (.ifCond .ge 13, 3) := dz_156 (kBcX1_writeText_2 76 rfl rfl) (kBcX1_writeText_2 77 rfl rfl) (kBcX1_writeText_2 78 rfl rfl) rfl
theorem dX1_writeText_79 : decode cX1_writeText 79 = .ok (.aload_n 0, 1) := dz_42 (kBcX1_writeText_2 79 rfl rfl)
theorem dX1_writeText_80 : decode cX1_writeText 80 = .ok (.getfield 32, 3) := dz_180 (kBcX1_writeText_2 80 rfl rfl) (kBcX1_writeText_2 81 rfl rfl) (kBcX1_writeText_2 82 rfl rfl) rfl
theorem dX1_writeText_83 : decode cX1_writeText 83 = .ok (.bipush 45, 2) := dz_16 (kBcX1_writeText_2 83 rfl rfl) (kBcX1_writeText_2 84 rfl rfl) rfl
theorem dX1_writeText_85 : decode cX1_writeText 85 = .ok (.invokevirtual 286, 3) := dz_182 (kBcX1_writeText_2 85 rfl rfl) (kBcX1_writeText_2 86 rfl rfl) (kBcX1_writeText_2 87 rfl rfl) rfl
theorem dX1_writeText_88 : decode cX1_writeText 88 = .ok (.pop, 1) := dz_87 (kBcX1_writeText_2 88 rfl rfl)
theorem dX1_writeText_89 : decode cX1_writeText 89 = .ok (.aload_n 0, 1) := dz_42 (kBcX1_writeText_2 89 rfl rfl)
theorem dX1_writeText_90 : decode cX1_writeText 90 = .ok (.getfield 32, 3) := dz_180 (kBcX1_writeText_2 90 rfl rfl) (kBcX1_writeText_2 91 rfl rfl) (kBcX1_writeText_2 92 rfl rfl) rfl
theorem dX1_writeText_93 : decode cX1_writeText 93 = .ok (.invokevirtual 290, 3) := dz_182 (kBcX1_writeText_2 93 rfl rfl) (kBcX1_writeText_2 94 rfl rfl) (kBcX1_writeText_2 95 rfl rfl) rfl
theorem dX1_writeText_96 : decode cX1_writeText 96 = .ok (.pop, 1) := dz_87 (kBcX1_writeText_3 96 rfl rfl)
theorem dX1_writeText_97 : decode cX1_writeText 97 = .ok (.return_, 1) := dz_177 (kBcX1_writeText_3 97 rfl rfl)
def kCcX1_isLeafSound_0 : List Nat := [30, 184, 0, 139, 61, 30, 184, 0, 81, 30, 184, 0, 77, 184, 0, 50, 30, 148, 154, 0, 7, 4, 167, 0, 4, 3, 62, 30, 28, 184, 0, 128]
def kCcX1_isLeafSound_1 : List Nat := [153, 0, 25, 30, 28, 4, 96, 184, 0, 128, 154, 0, 15, 30, 3, 184, 0, 128, 154, 0, 7, 4, 167, 0, 4, 3, 54, 4, 29, 153, 0, 30]
def kCcX1_isLeafSound_2 : List Nat := [21, 4, 153, 0, 25, 30, 20, 1, 0, 148, 153, 0, 13, 30, 30, 10, 97, 184, 1, 38, 153, 0, 7, 4, 167, 0, 4, 3, 172]
def kRcX1_isLeafSound_3 : List Nat := []
def kRcX1_isLeafSound_2 : List Nat := kCcX1_isLeafSound_2 ++ kRcX1_isLeafSound_3
def kRcX1_isLeafSound_1 : List Nat := kCcX1_isLeafSound_1 ++ kRcX1_isLeafSound_2
def kRcX1_isLeafSound_0 : List Nat := kCcX1_isLeafSound_0 ++ kRcX1_isLeafSound_1
theorem kRcX1_isLeafSound_eq : cX1_isLeafSound.data.toList.map UInt8.toNat = kRcX1_isLeafSound_0 := by decide +kernel
theorem katcX1_isLeafSound_0 (i : Nat) : (cX1_isLeafSound.data.toList.map UInt8.toNat)[0 + i]? = kRcX1_isLeafSound_0[i]? := by rw [kRcX1_isLeafSound_eq, Nat.zero_add]
theorem katcX1_isLeafSound_1 : ∀ i : Nat, (cX1_isLeafSound.data.toList.map UInt8.toNat)[32 + i]? = kRcX1_isLeafSound_1[i]? := kstep katcX1_isLeafSound_0 (C := kCcX1_isLeafSound_0) rfl rfl
theorem katcX1_isLeafSound_2 : ∀ i : Nat, (cX1_isLeafSound.data.toList.map UInt8.toNat)[64 + i]? = kRcX1_isLeafSound_2[i]? := kstep katcX1_isLeafSound_1 (C := kCcX1_isLeafSound_1) rfl rfl
theorem kBcX1_isLeafSound_0 {b : Nat} (p : Nat) (hp : Nat.ble 0 p = true) (h : kCcX1_isLeafSound_0[p - 0]? = some b) : kb cX1_isLeafSound p b := kin katcX1_isLeafSound_0 rfl hp h
theorem kBcX1_isLeafSound_1 {b : Nat} (p : Nat) (hp : Nat.ble 32 p = true) (h : kCcX1_isLeafSound_1[p - 32]? = some b) : kb cX1_isLeafSound p b := kin katcX1_isLeafSound_1 rfl hp h
theorem kBcX1_isLeafSound_2 {b : Nat} (p : Nat) (hp : Nat.ble 64 p = true) (h : kCcX1_isLeafSound_2[p - 64]? = some b) : kb cX1_isLeafSound p b := kin katcX1_isLeafSound_2 rfl hp h
theorem dX1_isLeafSound_0 : decode cX1_isLeafSound 0 = .ok (.lload_n 0, 1) := dz_30 (kBcX1_isLeafSound_0 0 rfl rfl)
theorem dX1_isLeafSound_1 : decode cX1_isLeafSound 1 = .ok (.invokestatic 139, 3) := dz_184 (kBcX1_isLeafSound_0 1 rfl rfl) (kBcX1_isLeafSound_0 2 rfl rfl) (kBcX1_isLeafSound_0 3 rfl rfl) rfl
theorem dX1_isLeafSound_4 : decode cX1_isLeafSound 4 = .ok (.istore_n 2, 1) := dz_61 (kBcX1_isLeafSound_0 4 rfl rfl)
theorem dX1_isLeafSound_5 : decode cX1_isLeafSound 5 = .ok (.lload_n 0, 1) := dz_30 (kBcX1_isLeafSound_0 5 rfl rfl)
theorem dX1_isLeafSound_6 : decode cX1_isLeafSound 6 = .ok (.invokestatic 81, 3) := dz_184 (kBcX1_isLeafSound_0 6 rfl rfl) (kBcX1_isLeafSound_0 7 rfl rfl) (kBcX1_isLeafSound_0 8 rfl rfl) rfl
theorem dX1_isLeafSound_9 : decode cX1_isLeafSound 9 = .ok (.lload_n 0, 1) := dz_30 (kBcX1_isLeafSound_0 9 rfl rfl)
theorem dX1_isLeafSound_10 : decode cX1_isLeafSound 10 = .ok (.invokestatic 77, 3) := dz_184 (kBcX1_isLeafSound_0 10 rfl rfl) (kBcX1_isLeafSound_0 11 rfl rfl) (kBcX1_isLeafSound_0 12 rfl rfl) rfl
theorem dX1_isLeafSound_13 : decode cX1_isLeafSound 13 = .ok (.invokestatic 50, 3) := dz_184 (kBcX1_isLeafSound_0 13 rfl rfl) (kBcX1_isLeafSound_0 14 rfl rfl) (kBcX1_isLeafSound_0 15 rfl rfl) rfl
theorem dX1_isLeafSound_16 : decode cX1_isLeafSound 16 = .ok (.lload_n 0, 1) := dz_30 (kBcX1_isLeafSound_0 16 rfl rfl)
theorem dX1_isLeafSound_17 : decode cX1_isLeafSound 17 = .ok (.lcmp, 1) := dz_148 (kBcX1_isLeafSound_0 17 rfl rfl)
theorem dX1_isLeafSound_18 : decode cX1_isLeafSound 18 = .ok (.ifCond .ne 7, 3) := dz_154 (kBcX1_isLeafSound_0 18 rfl rfl) (kBcX1_isLeafSound_0 19 rfl rfl) (kBcX1_isLeafSound_0 20 rfl rfl) rfl
theorem dX1_isLeafSound_21 : decode cX1_isLeafSound 21 = .ok (.iconst 1, 1) := dz_4 (kBcX1_isLeafSound_0 21 rfl rfl)
theorem dX1_isLeafSound_22 : decode cX1_isLeafSound 22 = .ok (.goto 4, 3) := dz_167 (kBcX1_isLeafSound_0 22 rfl rfl) (kBcX1_isLeafSound_0 23 rfl rfl) (kBcX1_isLeafSound_0 24 rfl rfl) rfl
theorem dX1_isLeafSound_25 : decode cX1_isLeafSound 25 = .ok (.iconst 0, 1) := dz_3 (kBcX1_isLeafSound_0 25 rfl rfl)
theorem dX1_isLeafSound_26 : decode cX1_isLeafSound 26 = .ok (.istore_n 3, 1) := dz_62 (kBcX1_isLeafSound_0 26 rfl rfl)
theorem dX1_isLeafSound_27 : decode cX1_isLeafSound 27 = .ok (.lload_n 0, 1) := dz_30 (kBcX1_isLeafSound_0 27 rfl rfl)
theorem dX1_isLeafSound_28 : decode cX1_isLeafSound 28 = .ok (.iload_n 2, 1) := dz_28 (kBcX1_isLeafSound_0 28 rfl rfl)
theorem dX1_isLeafSound_29 : decode cX1_isLeafSound 29 = .ok (.invokestatic 128, 3) := dz_184 (kBcX1_isLeafSound_0 29 rfl rfl) (kBcX1_isLeafSound_0 30 rfl rfl) (kBcX1_isLeafSound_0 31 rfl rfl) rfl
theorem dX1_isLeafSound_32 : decode cX1_isLeafSound 32 = .ok (.ifCond .eq 25, 3) := dz_153 (kBcX1_isLeafSound_1 32 rfl rfl) (kBcX1_isLeafSound_1 33 rfl rfl) (kBcX1_isLeafSound_1 34 rfl rfl) rfl
theorem dX1_isLeafSound_35 : decode cX1_isLeafSound 35 = .ok (.lload_n 0, 1) := dz_30 (kBcX1_isLeafSound_1 35 rfl rfl)
theorem dX1_isLeafSound_36 : decode cX1_isLeafSound 36 = .ok (.iload_n 2, 1) := dz_28 (kBcX1_isLeafSound_1 36 rfl rfl)
theorem dX1_isLeafSound_37 : decode cX1_isLeafSound 37 = .ok (.iconst 1, 1) := dz_4 (kBcX1_isLeafSound_1 37 rfl rfl)
theorem dX1_isLeafSound_38 : decode cX1_isLeafSound 38 = .ok (.iadd, 1) := dz_96 (kBcX1_isLeafSound_1 38 rfl rfl)
theorem dX1_isLeafSound_39 : decode cX1_isLeafSound 39 = .ok (.invokestatic 128, 3) := dz_184 (kBcX1_isLeafSound_1 39 rfl rfl) (kBcX1_isLeafSound_1 40 rfl rfl) (kBcX1_isLeafSound_1 41 rfl rfl) rfl
theorem dX1_isLeafSound_42 : decode cX1_isLeafSound 42 = .ok (.ifCond .ne 15, 3) := dz_154 (kBcX1_isLeafSound_1 42 rfl rfl) (kBcX1_isLeafSound_1 43 rfl rfl) (kBcX1_isLeafSound_1 44 rfl rfl) rfl
theorem dX1_isLeafSound_45 : decode cX1_isLeafSound 45 = .ok (.lload_n 0, 1) := dz_30 (kBcX1_isLeafSound_1 45 rfl rfl)
theorem dX1_isLeafSound_46 : decode cX1_isLeafSound 46 = .ok (.iconst 0, 1) := dz_3 (kBcX1_isLeafSound_1 46 rfl rfl)
theorem dX1_isLeafSound_47 : decode cX1_isLeafSound 47 = .ok (.invokestatic 128, 3) := dz_184 (kBcX1_isLeafSound_1 47 rfl rfl) (kBcX1_isLeafSound_1 48 rfl rfl) (kBcX1_isLeafSound_1 49 rfl rfl) rfl
theorem dX1_isLeafSound_50 : decode cX1_isLeafSound 50 = .ok (.ifCond .ne 7, 3) := dz_154 (kBcX1_isLeafSound_1 50 rfl rfl) (kBcX1_isLeafSound_1 51 rfl rfl) (kBcX1_isLeafSound_1 52 rfl rfl) rfl
theorem dX1_isLeafSound_53 : decode cX1_isLeafSound 53 = .ok (.iconst 1, 1) := dz_4 (kBcX1_isLeafSound_1 53 rfl rfl)
theorem dX1_isLeafSound_54 : decode cX1_isLeafSound 54 = .ok (.goto 4, 3) := dz_167 (kBcX1_isLeafSound_1 54 rfl rfl) (kBcX1_isLeafSound_1 55 rfl rfl) (kBcX1_isLeafSound_1 56 rfl rfl) rfl
theorem dX1_isLeafSound_57 : decode cX1_isLeafSound 57 = .ok (.iconst 0, 1) := dz_3 (kBcX1_isLeafSound_1 57 rfl rfl)
theorem dX1_isLeafSound_58 : decode cX1_isLeafSound 58 = .ok (.istore 4, 2) := dz_54 (kBcX1_isLeafSound_1 58 rfl rfl) (kBcX1_isLeafSound_1 59 rfl rfl)
theorem dX1_isLeafSound_60 : decode cX1_isLeafSound 60 = .ok (.iload_n 3, 1) := dz_29 (kBcX1_isLeafSound_1 60 rfl rfl)
theorem dX1_isLeafSound_61 : decode cX1_isLeafSound 61 = .ok (.ifCond .eq 30, 3) := dz_153 (kBcX1_isLeafSound_1 61 rfl rfl) (kBcX1_isLeafSound_1 62 rfl rfl) (kBcX1_isLeafSound_1 63 rfl rfl) rfl
theorem dX1_isLeafSound_64 : decode cX1_isLeafSound 64 = .ok (.iload 4, 2) := dz_21 (kBcX1_isLeafSound_2 64 rfl rfl) (kBcX1_isLeafSound_2 65 rfl rfl)
theorem dX1_isLeafSound_66 : decode cX1_isLeafSound 66 = .ok (.ifCond .eq 25, 3) := dz_153 (kBcX1_isLeafSound_2 66 rfl rfl) (kBcX1_isLeafSound_2 67 rfl rfl) (kBcX1_isLeafSound_2 68 rfl rfl) rfl
theorem dX1_isLeafSound_69 : decode cX1_isLeafSound 69 = .ok (.lload_n 0, 1) := dz_30 (kBcX1_isLeafSound_2 69 rfl rfl)
theorem dX1_isLeafSound_70 : decode cX1_isLeafSound 70 = .ok (.ldc2_w 256, 3) := dz_20 (kBcX1_isLeafSound_2 70 rfl rfl) (kBcX1_isLeafSound_2 71 rfl rfl) (kBcX1_isLeafSound_2 72 rfl rfl) rfl
theorem dX1_isLeafSound_73 : decode cX1_isLeafSound 73 = .ok (.lcmp, 1) := dz_148 (kBcX1_isLeafSound_2 73 rfl rfl)
theorem dX1_isLeafSound_74 : decode cX1_isLeafSound 74 = .ok (.ifCond .eq 13, 3) := dz_153 (kBcX1_isLeafSound_2 74 rfl rfl) (kBcX1_isLeafSound_2 75 rfl rfl) (kBcX1_isLeafSound_2 76 rfl rfl) rfl
theorem dX1_isLeafSound_77 : decode cX1_isLeafSound 77 = .ok (.lload_n 0, 1) := dz_30 (kBcX1_isLeafSound_2 77 rfl rfl)
theorem dX1_isLeafSound_78 : decode cX1_isLeafSound 78 = .ok (.lload_n 0, 1) := dz_30 (kBcX1_isLeafSound_2 78 rfl rfl)
theorem dX1_isLeafSound_79 : decode cX1_isLeafSound 79 = .ok (.lconst 1, 1) := dz_10 (kBcX1_isLeafSound_2 79 rfl rfl)
theorem dX1_isLeafSound_80 : decode cX1_isLeafSound 80 = .ok (.ladd, 1) := dz_97 (kBcX1_isLeafSound_2 80 rfl rfl)
theorem dX1_isLeafSound_81 : decode cX1_isLeafSound 81 = .ok (.invokestatic 294, 3) := dz_184 (kBcX1_isLeafSound_2 81 rfl rfl) (kBcX1_isLeafSound_2 82 rfl rfl) (kBcX1_isLeafSound_2 83 rfl rfl) rfl
theorem dX1_isLeafSound_84 : decode cX1_isLeafSound 84 = .ok (.ifCond .eq 7, 3) := dz_153 (kBcX1_isLeafSound_2 84 rfl rfl) (kBcX1_isLeafSound_2 85 rfl rfl) (kBcX1_isLeafSound_2 86 rfl rfl) rfl
theorem dX1_isLeafSound_87 : decode cX1_isLeafSound 87 = .ok (.iconst 1, 1) := dz_4 (kBcX1_isLeafSound_2 87 rfl rfl)
theorem dX1_isLeafSound_88 : decode cX1_isLeafSound 88 = .ok (.goto 4, 3) := dz_167 (kBcX1_isLeafSound_2 88 rfl rfl) (kBcX1_isLeafSound_2 89 rfl rfl) (kBcX1_isLeafSound_2 90 rfl rfl) rfl
theorem dX1_isLeafSound_91 : decode cX1_isLeafSound 91 = .ok (.iconst 0, 1) := dz_3 (kBcX1_isLeafSound_2 91 rfl rfl)
theorem dX1_isLeafSound_92 : decode cX1_isLeafSound 92 = .ok (.ireturn, 1) := dz_172 (kBcX1_isLeafSound_2 92 rfl rfl)
def kCcX1_isNextSound_0 : List Nat := [30, 30, 184, 0, 139, 184, 1, 9, 55, 4, 32, 30, 3, 184, 0, 168, 4, 160, 0, 28, 32, 10, 101, 30, 148, 154, 0, 20, 32, 4, 184, 1]
def kCcX1_isNextSound_1 : List Nat := [9, 22, 4, 10, 97, 148, 154, 0, 7, 4, 167, 0, 4, 3, 172]
def kRcX1_isNextSound_2 : List Nat := []
def kRcX1_isNextSound_1 : List Nat := kCcX1_isNextSound_1 ++ kRcX1_isNextSound_2
def kRcX1_isNextSound_0 : List Nat := kCcX1_isNextSound_0 ++ kRcX1_isNextSound_1
theorem kRcX1_isNextSound_eq : cX1_isNextSound.data.toList.map UInt8.toNat = kRcX1_isNextSound_0 := by decide +kernel
theorem katcX1_isNextSound_0 (i : Nat) : (cX1_isNextSound.data.toList.map UInt8.toNat)[0 + i]? = kRcX1_isNextSound_0[i]? := by rw [kRcX1_isNextSound_eq, Nat.zero_add]
theorem katcX1_isNextSound_1 : ∀ i : Nat, (cX1_isNextSound.data.toList.map UInt8.toNat)[32 + i]? = kRcX1_isNextSound_1[i]? := kstep katcX1_isNextSound_0 (C := kCcX1_isNextSound_0) rfl rfl
theorem kBcX1_isNextSound_0 {b : Nat} (p : Nat) (hp : Nat.ble 0 p = true) (h : kCcX1_isNextSound_0[p - 0]? = some b) : kb cX1_isNextSound p b := kin katcX1_isNextSound_0 rfl hp h
theorem kBcX1_isNextSound_1 {b : Nat} (p : Nat) (hp : Nat.ble 32 p = true) (h : kCcX1_isNextSound_1[p - 32]? = some b) : kb cX1_isNextSound p b := kin katcX1_isNextSound_1 rfl hp h
theorem dX1_isNextSound_0 : decode cX1_isNextSound 0 = .ok (.lload_n 0, 1) := dz_30 (kBcX1_isNextSound_0 0 rfl rfl)
theorem dX1_isNextSound_1 : decode cX1_isNextSound 1 = .ok (.lload_n 0, 1) := dz_30 (kBcX1_isNextSound_0 1 rfl rfl)
theorem dX1_isNextSound_2 : decode cX1_isNextSound 2 = .ok (.invokestatic 139, 3) := dz_184 (kBcX1_isNextSound_0 2 rfl rfl) (kBcX1_isNextSound_0 3 rfl rfl) (kBcX1_isNextSound_0 4 rfl rfl) rfl
theorem dX1_isNextSound_5 : decode cX1_isNextSound 5 = .ok (.invokestatic 265, 3) := dz_184 (kBcX1_isNextSound_0 5 rfl rfl) (kBcX1_isNextSound_0 6 rfl rfl) (kBcX1_isNextSound_0 7 rfl rfl) rfl
theorem dX1_isNextSound_8 : decode cX1_isNextSound 8 = .ok (.lstore 4, 2) := dz_55 (kBcX1_isNextSound_0 8 rfl rfl) (kBcX1_isNextSound_0 9 rfl rfl)
theorem dX1_isNextSound_10 : decode cX1_isNextSound 10 = .ok (.lload_n 2, 1) := dz_32 (kBcX1_isNextSound_0 10 rfl rfl)
theorem dX1_isNextSound_11 : decode cX1_isNextSound 11 = .ok (.lload_n 0, 1) := dz_30 (kBcX1_isNextSound_0 11 rfl rfl)
theorem dX1_isNextSound_12 : decode cX1_isNextSound 12 = .ok (.iconst 0, 1) := dz_3 (kBcX1_isNextSound_0 12 rfl rfl)
theorem dX1_isNextSound_13 : decode cX1_isNextSound 13 = .ok (.invokestatic 168, 3) := dz_184 (kBcX1_isNextSound_0 13 rfl rfl) (kBcX1_isNextSound_0 14 rfl rfl) (kBcX1_isNextSound_0 15 rfl rfl) rfl
theorem dX1_isNextSound_16 : decode cX1_isNextSound 16 = .ok (.iconst 1, 1) := dz_4 (kBcX1_isNextSound_0 16 rfl rfl)
theorem dX1_isNextSound_17 : decode cX1_isNextSound 17 = .ok (.if_icmp .ne 28, 3) := dz_160 (kBcX1_isNextSound_0 17 rfl rfl) (kBcX1_isNextSound_0 18 rfl rfl) (kBcX1_isNextSound_0 19 rfl rfl) rfl
theorem dX1_isNextSound_20 : decode cX1_isNextSound 20 = .ok (.lload_n 2, 1) := dz_32 (kBcX1_isNextSound_0 20 rfl rfl)
theorem dX1_isNextSound_21 : decode cX1_isNextSound 21 = .ok (.lconst 1, 1) := dz_10 (kBcX1_isNextSound_0 21 rfl rfl)
theorem dX1_isNextSound_22 : decode cX1_isNextSound 22 = .ok (.lsub, 1) := dz_101 (kBcX1_isNextSound_0 22 rfl rfl)
theorem dX1_isNextSound_23 : decode cX1_isNextSound 23 = .ok (.lload_n 0, 1) := dz_30 (kBcX1_isNextSound_0 23 rfl rfl)
theorem dX1_isNextSound_24 : decode cX1_isNextSound 24 = .ok (.lcmp, 1) := dz_148 (kBcX1_isNextSound_0 24 rfl rfl)
theorem dX1_isNextSound_25 : decode cX1_isNextSound 25 = .ok (.ifCond .ne 20, 3) := dz_154 (kBcX1_isNextSound_0 25 rfl rfl) (kBcX1_isNextSound_0 26 rfl rfl) (kBcX1_isNextSound_0 27 rfl rfl) rfl
theorem dX1_isNextSound_28 : decode cX1_isNextSound 28 = .ok (.lload_n 2, 1) := dz_32 (kBcX1_isNextSound_0 28 rfl rfl)
theorem dX1_isNextSound_29 : decode cX1_isNextSound 29 = .ok (.iconst 1, 1) := dz_4 (kBcX1_isNextSound_0 29 rfl rfl)
theorem dX1_isNextSound_30 : decode cX1_isNextSound 30 = .ok (.invokestatic 265, 3) := dz_184 (kBcX1_isNextSound_0 30 rfl rfl) (kBcX1_isNextSound_0 31 rfl rfl) (kBcX1_isNextSound_1 32 rfl rfl) rfl
theorem dX1_isNextSound_33 : decode cX1_isNextSound 33 = .ok (.lload 4, 2) := dz_22 (kBcX1_isNextSound_1 33 rfl rfl) (kBcX1_isNextSound_1 34 rfl rfl)
theorem dX1_isNextSound_35 : decode cX1_isNextSound 35 = .ok (.lconst 1, 1) := dz_10 (kBcX1_isNextSound_1 35 rfl rfl)
theorem dX1_isNextSound_36 : decode cX1_isNextSound 36 = .ok (.ladd, 1) := dz_97 (kBcX1_isNextSound_1 36 rfl rfl)
theorem dX1_isNextSound_37 : decode cX1_isNextSound 37 = .ok (.lcmp, 1) := dz_148 (kBcX1_isNextSound_1 37 rfl rfl)
theorem dX1_isNextSound_38 : decode cX1_isNextSound 38 = .ok (.ifCond .ne 7, 3) := dz_154 (kBcX1_isNextSound_1 38 rfl rfl) (kBcX1_isNextSound_1 39 rfl rfl) (kBcX1_isNextSound_1 40 rfl rfl) rfl
theorem dX1_isNextSound_41 : decode cX1_isNextSound 41 = .ok (.iconst 1, 1) := dz_4 (kBcX1_isNextSound_1 41 rfl rfl)
theorem dX1_isNextSound_42 : decode cX1_isNextSound 42 = .ok (.goto 4, 3) := dz_167 (kBcX1_isNextSound_1 42 rfl rfl) (kBcX1_isNextSound_1 43 rfl rfl) (kBcX1_isNextSound_1 44 rfl rfl) rfl
theorem dX1_isNextSound_45 : decode cX1_isNextSound 45 = .ok (.iconst 0, 1) := dz_3 (kBcX1_isNextSound_1 45 rfl rfl)
theorem dX1_isNextSound_46 : decode cX1_isNextSound 46 = .ok (.ireturn, 1) := dz_172 (kBcX1_isNextSound_1 46 rfl rfl)
def kCcX1_isYearSound_0 : List Nat := [9, 64, 4, 62, 29, 16, 12, 163, 0, 21, 31, 26, 29, 184, 0, 50, 184, 0, 139, 133, 97, 64, 132, 3, 1, 167, 255, 235, 26, 133, 184, 0]
def kCcX1_isYearSound_1 : List Nat := [142, 62, 29, 17, 1, 110, 160, 0, 7, 4, 167, 0, 4, 3, 26, 133, 184, 0, 145, 160, 0, 7, 4, 167, 0, 4, 3, 54, 4, 21, 4, 153]
def kCcX1_isYearSound_2 : List Nat := [0, 32, 29, 133, 31, 148, 154, 0, 25, 26, 19, 1, 42, 162, 0, 14, 26, 184, 1, 43, 20, 1, 46, 148, 154, 0, 7, 4, 167, 0, 4, 3]
def kCcX1_isYearSound_3 : List Nat := [172]
def kRcX1_isYearSound_4 : List Nat := []
def kRcX1_isYearSound_3 : List Nat := kCcX1_isYearSound_3 ++ kRcX1_isYearSound_4
def kRcX1_isYearSound_2 : List Nat := kCcX1_isYearSound_2 ++ kRcX1_isYearSound_3
def kRcX1_isYearSound_1 : List Nat := kCcX1_isYearSound_1 ++ kRcX1_isYearSound_2
def kRcX1_isYearSound_0 : List Nat := kCcX1_isYearSound_0 ++ kRcX1_isYearSound_1
theorem kRcX1_isYearSound_eq : cX1_isYearSound.data.toList.map UInt8.toNat = kRcX1_isYearSound_0 := by decide +kernel
theorem katcX1_isYearSound_0 (i : Nat) : (cX1_isYearSound.data.toList.map UInt8.toNat)[0 + i]? = kRcX1_isYearSound_0[i]? := by rw [kRcX1_isYearSound_eq, Nat.zero_add]
theorem katcX1_isYearSound_1 : ∀ i : Nat, (cX1_isYearSound.data.toList.map UInt8.toNat)[32 + i]? = kRcX1_isYearSound_1[i]? := kstep katcX1_isYearSound_0 (C := kCcX1_isYearSound_0) rfl rfl
theorem katcX1_isYearSound_2 : ∀ i : Nat, (cX1_isYearSound.data.toList.map UInt8.toNat)[64 + i]? = kRcX1_isYearSound_2[i]? := kstep katcX1_isYearSound_1 (C := kCcX1_isYearSound_1) rfl rfl
theorem katcX1_isYearSound_3 : ∀ i : Nat, (cX1_isYearSound.data.toList.map UInt8.toNat)[96 + i]? = kRcX1_isYearSound_3[i]? := kstep katcX1_isYearSound_2 (C := kCcX1_isYearSound_2) rfl rfl
theorem kBcX1_isYearSound_0 {b : Nat} (p : Nat) (hp : Nat.ble 0 p = true) (h : kCcX1_isYearSound_0[p - 0]? = some b) : kb cX1_isYearSound p b := kin katcX1_isYearSound_0 rfl hp h
theorem kBcX1_isYearSound_1 {b : Nat} (p : Nat) (hp : Nat.ble 32 p = true) (h : kCcX1_isYearSound_1[p - 32]? = some b) : kb cX1_isYearSound p b := kin katcX1_isYearSound_1 rfl hp h
theorem kBcX1_isYearSound_2 {b : Nat} (p : Nat) (hp : Nat.ble 64 p = true) (h : kCcX1_isYearSound_2[p - 64]? = some b) : kb cX1_isYearSound p b := kin katcX1_isYearSound_2 rfl hp h
theorem kBcX1_isYearSound_3 {b : Nat} (p : Nat) (hp : Nat.ble 96 p = true) (h : kCcX1_isYearSound_3[p - 96]? = some b) : kb cX1_isYearSound p b := kin katcX1_isYearSound_3 rfl hp h
theorem dX1_isYearSound_0 : decode cX1_isYearSound 0 = .ok (.lconst 0, 1) := dz_9 (kBcX1_isYearSound_0 0 rfl rfl)
theorem dX1_isYearSound_1 : decode cX1_isYearSound 1 = .ok (.lstore_n 1, 1) := dz_64 (kBcX1_isYearSound_0 1 rfl rfl)
theorem dX1_isYearSound_2 : decode cX1_isYearSound 2 = .ok (.iconst 1, 1) := dz_4 (kBcX1_isYearSound_0 2 rfl rfl)
theorem dX1_isYearSound_3 : decode cX1_isYearSound 3 = .ok (.istore_n 3, 1) := dz_62 (kBcX1_isYearSound_0 3 rfl rfl)
theorem dX1_isYearSound_4 : decode cX1_isYearSound 4 = .ok (.iload_n 3, 1) := dz_29 (kBcX1_isYearSound_0 4 rfl rfl)
theorem dX1_isYearSound_5 : decode cX1_isYearSound 5 = .ok (.bipush 12, 2) := dz_16 (kBcX1_isYearSound_0 5 rfl rfl) (kBcX1_isYearSound_0 6 rfl rfl) rfl
theorem dX1_isYearSound_7 : decode cX1_isYearSound 7 = .ok (.if_icmp .gt 21, 3) := dz_163 (kBcX1_isYearSound_0 7 rfl rfl) (kBcX1_isYearSound_0 8 rfl rfl) (kBcX1_isYearSound_0 9 rfl rfl) rfl
theorem dX1_isYearSound_10 : decode cX1_isYearSound 10 = .ok (.lload_n 1, 1) := dz_31 (kBcX1_isYearSound_0 10 rfl rfl)
theorem dX1_isYearSound_11 : decode cX1_isYearSound 11 = .ok (.iload_n 0, 1) := dz_26 (kBcX1_isYearSound_0 11 rfl rfl)
theorem dX1_isYearSound_12 : decode cX1_isYearSound 12 = .ok (.iload_n 3, 1) := dz_29 (kBcX1_isYearSound_0 12 rfl rfl)
theorem dX1_isYearSound_13 : decode cX1_isYearSound 13 = .ok (.invokestatic 50, 3) := dz_184 (kBcX1_isYearSound_0 13 rfl rfl) (kBcX1_isYearSound_0 14 rfl rfl) (kBcX1_isYearSound_0 15 rfl rfl) rfl
theorem dX1_isYearSound_16 : decode cX1_isYearSound 16 = .ok (.invokestatic 139, 3) := dz_184 (kBcX1_isYearSound_0 16 rfl rfl) (kBcX1_isYearSound_0 17 rfl rfl) (kBcX1_isYearSound_0 18 rfl rfl) rfl
theorem dX1_isYearSound_19 : decode cX1_isYearSound 19 = .ok (.i2l, 1) := dz_133 (kBcX1_isYearSound_0 19 rfl rfl)
theorem dX1_isYearSound_20 : decode cX1_isYearSound 20 = .ok (.ladd, 1) := dz_97 (kBcX1_isYearSound_0 20 rfl rfl)
theorem dX1_isYearSound_21 : decode cX1_isYearSound 21 = .ok (.lstore_n 1, 1) := dz_64 (kBcX1_isYearSound_0 21 rfl rfl)
theorem dX1_isYearSound_22 : decode cX1_isYearSound 22 = .ok (.iinc 3 1, 3) := dz_132 (kBcX1_isYearSound_0 22 rfl rfl) (kBcX1_isYearSound_0 23 rfl rfl) (kBcX1_isYearSound_0 24 rfl rfl) rfl
theorem dX1_isYearSound_25 : decode cX1_isYearSound 25 = .ok (.goto (-21), 3) := dz_167 (kBcX1_isYearSound_0 25 rfl rfl) (kBcX1_isYearSound_0 26 rfl rfl) (kBcX1_isYearSound_0 27 rfl rfl) rfl
theorem dX1_isYearSound_28 : decode cX1_isYearSound 28 = .ok (.iload_n 0, 1) := dz_26 (kBcX1_isYearSound_0 28 rfl rfl)
theorem dX1_isYearSound_29 : decode cX1_isYearSound 29 = .ok (.i2l, 1) := dz_133 (kBcX1_isYearSound_0 29 rfl rfl)
theorem dX1_isYearSound_30 : decode cX1_isYearSound 30 = .ok (.invokestatic 142, 3) := dz_184 (kBcX1_isYearSound_0 30 rfl rfl) (kBcX1_isYearSound_0 31 rfl rfl) (kBcX1_isYearSound_1 32 rfl rfl) rfl
theorem dX1_isYearSound_33 : decode cX1_isYearSound 33 = .ok (.istore_n 3, 1) := dz_62 (kBcX1_isYearSound_1 33 rfl rfl)
theorem dX1_isYearSound_34 : decode cX1_isYearSound 34 = .ok (.iload_n 3, 1) := dz_29 (kBcX1_isYearSound_1 34 rfl rfl)
theorem dX1_isYearSound_35 : decode cX1_isYearSound 35 = .ok (.sipush 366, 3) := dz_17 (kBcX1_isYearSound_1 35 rfl rfl) (kBcX1_isYearSound_1 36 rfl rfl) (kBcX1_isYearSound_1 37 rfl rfl) rfl
theorem dX1_isYearSound_38 : decode cX1_isYearSound 38 = .ok (.if_icmp .ne 7, 3) := dz_160 (kBcX1_isYearSound_1 38 rfl rfl) (kBcX1_isYearSound_1 39 rfl rfl) (kBcX1_isYearSound_1 40 rfl rfl) rfl
theorem dX1_isYearSound_41 : decode cX1_isYearSound 41 = .ok (.iconst 1, 1) := dz_4 (kBcX1_isYearSound_1 41 rfl rfl)
theorem dX1_isYearSound_42 : decode cX1_isYearSound 42 = .ok (.goto 4, 3) := dz_167 (kBcX1_isYearSound_1 42 rfl rfl) (kBcX1_isYearSound_1 43 rfl rfl) (kBcX1_isYearSound_1 44 rfl rfl) rfl
theorem dX1_isYearSound_45 : decode cX1_isYearSound 45 = .ok (.iconst 0, 1) := dz_3 (kBcX1_isYearSound_1 45 rfl rfl)
theorem dX1_isYearSound_46 : decode cX1_isYearSound 46 = .ok (.iload_n 0, 1) := dz_26 (kBcX1_isYearSound_1 46 rfl rfl)
theorem dX1_isYearSound_47 : decode cX1_isYearSound 47 = .ok (.i2l, 1) := dz_133 (kBcX1_isYearSound_1 47 rfl rfl)
theorem dX1_isYearSound_48 : decode cX1_isYearSound 48 = .ok (.invokestatic 145, 3) := dz_184 (kBcX1_isYearSound_1 48 rfl rfl) (kBcX1_isYearSound_1 49 rfl rfl) (kBcX1_isYearSound_1 50 rfl rfl) rfl
theorem dX1_isYearSound_51 : decode cX1_isYearSound 51 = .ok (.if_icmp .ne 7, 3) := dz_160 (kBcX1_isYearSound_1 51 rfl rfl) (kBcX1_isYearSound_1 52 rfl rfl) (kBcX1_isYearSound_1 53 rfl rfl) rfl
theorem dX1_isYearSound_54 : decode cX1_isYearSound 54 = .ok (.iconst 1, 1) := dz_4 (kBcX1_isYearSound_1 54 rfl rfl)
theorem dX1_isYearSound_55 : decode cX1_isYearSound 55 = .ok (.goto 4, 3) := dz_167 (kBcX1_isYearSound_1 55 rfl rfl) (kBcX1_isYearSound_1 56 rfl rfl) (kBcX1_isYearSound_1 57 rfl rfl) rfl
theorem dX1_isYearSound_58 : decode cX1_isYearSound 58 = .ok (.iconst 0, 1) := dz_3 (kBcX1_isYearSound_1 58 rfl rfl)
theorem dX1_isYearSound_59 : decode cX1_isYearSound 59 = .ok (.istore 4, 2) := dz_54 (kBcX1_isYearSound_1 59 rfl rfl) (kBcX1_isYearSound_1 60 rfl rfl)
theorem dX1_isYearSound_61 : decode cX1_isYearSound 61 = .ok (.iload 4, 2) := dz_21 (kBcX1_isYearSound_1 61 rfl rfl) (kBcX1_isYearSound_1 62 rfl rfl)
theorem dX1_isYearSound_63 : decode cX1_isYearSound 63 = .ok (.ifCond .eq 32, 3) := dz_153 (kBcX1_isYearSound_1 63 rfl rfl) (kBcX1_isYearSound_2 64 rfl rfl) (kBcX1_isYearSound_2 65 rfl rfl) rfl
theorem dX1_isYearSound_66 : decode cX1_isYearSound 66 = .ok (.iload_n 3, 1) := dz_29 (kBcX1_isYearSound_2 66 rfl rfl)
theorem dX1_isYearSound_67 : decode cX1_isYearSound 67 = .ok (.i2l, 1) := dz_133 (kBcX1_isYearSound_2 67 rfl rfl)
theorem dX1_isYearSound_68 : decode cX1_isYearSound 68 = .ok (.lload_n 1, 1) := dz_31 (kBcX1_isYearSound_2 68 rfl rfl)
theorem dX1_isYearSound_69 : decode cX1_isYearSound 69 = .ok (.lcmp, 1) := dz_148 (kBcX1_isYearSound_2 69 rfl rfl)
theorem dX1_isYearSound_70 : decode cX1_isYearSound 70 = .ok (.ifCond .ne 25, 3) := dz_154 (kBcX1_isYearSound_2 70 rfl rfl) (kBcX1_isYearSound_2 71 rfl rfl) (kBcX1_isYearSound_2 72 rfl rfl) rfl
theorem dX1_isYearSound_73 : decode cX1_isYearSound 73 = .ok (.iload_n 0, 1) := dz_26 (kBcX1_isYearSound_2 73 rfl rfl)
theorem dX1_isYearSound_74 : decode cX1_isYearSound 74 = .ok (.ldc_w 298, 3) := dz_19 (kBcX1_isYearSound_2 74 rfl rfl) (kBcX1_isYearSound_2 75 rfl rfl) (kBcX1_isYearSound_2 76 rfl rfl) rfl
theorem dX1_isYearSound_77 : decode cX1_isYearSound 77 = .ok (.if_icmp .ge 14, 3) := dz_162 (kBcX1_isYearSound_2 77 rfl rfl) (kBcX1_isYearSound_2 78 rfl rfl) (kBcX1_isYearSound_2 79 rfl rfl) rfl
theorem dX1_isYearSound_80 : decode cX1_isYearSound 80 = .ok (.iload_n 0, 1) := dz_26 (kBcX1_isYearSound_2 80 rfl rfl)
theorem dX1_isYearSound_81 : decode cX1_isYearSound 81 = .ok (.invokestatic 299, 3) := dz_184 (kBcX1_isYearSound_2 81 rfl rfl) (kBcX1_isYearSound_2 82 rfl rfl) (kBcX1_isYearSound_2 83 rfl rfl) rfl
theorem dX1_isYearSound_84 : decode cX1_isYearSound 84 = .ok (.ldc2_w 302, 3) := dz_20 (kBcX1_isYearSound_2 84 rfl rfl) (kBcX1_isYearSound_2 85 rfl rfl) (kBcX1_isYearSound_2 86 rfl rfl) rfl
theorem dX1_isYearSound_87 : decode cX1_isYearSound 87 = .ok (.lcmp, 1) := dz_148 (kBcX1_isYearSound_2 87 rfl rfl)
theorem dX1_isYearSound_88 : decode cX1_isYearSound 88 = .ok (.ifCond .ne 7, 3) := dz_154 (kBcX1_isYearSound_2 88 rfl rfl) (kBcX1_isYearSound_2 89 rfl rfl) (kBcX1_isYearSound_2 90 rfl rfl) rfl
theorem dX1_isYearSound_91 : decode cX1_isYearSound 91 = .ok (.iconst 1, 1) := dz_4 (kBcX1_isYearSound_2 91 rfl rfl)
theorem dX1_isYearSound_92 : decode cX1_isYearSound 92 = .ok (.goto 4, 3) := dz_167 (kBcX1_isYearSound_2 92 rfl rfl) (kBcX1_isYearSound_2 93 rfl rfl) (kBcX1_isYearSound_2 94 rfl rfl) rfl
theorem dX1_isYearSound_95 : decode cX1_isYearSound 95 = .ok (.iconst 0, 1) := dz_3 (kBcX1_isYearSound_2 95 rfl rfl)
theorem dX1_isYearSound_96 : decode cX1_isYearSound 96 = .ok (.ireturn, 1) := dz_172 (kBcX1_isYearSound_3 96 rfl rfl)
def kCcX1_daysOf400Years_0 : List Nat := [26, 17, 1, 144, 96, 4, 184, 0, 50, 4, 184, 1, 9, 26, 4, 184, 0, 50, 4, 184, 1, 9, 101, 173]
theorem kRcX1_daysOf400Years_eq : cX1_daysOf400Years.data.toList.map UInt8.toNat = kCcX1_daysOf400Years_0 := by decide +kernel
theorem dX1_daysOf400Years_0 : decode cX1_daysOf400Years 0 = .ok (.iload_n 0, 1) := dz_26 (kin0 (p := 0) kRcX1_daysOf400Years_eq rfl)
theorem dX1_daysOf400Years_1 : decode cX1_daysOf400Years 1 = .ok (.sipush 400, 3) := dz_17 (kin0 (p := 1) kRcX1_daysOf400Years_eq rfl) (kin0 (p := 2) kRcX1_daysOf400Years_eq rfl) (kin0 (p := 3) kRcX1_daysOf400Years_eq rfl) rfl
theorem dX1_daysOf400Years_4 : decode cX1_daysOf400Years 4 = .ok (.iadd, 1) := dz_96 (kin0 (p := 4) kRcX1_daysOf400Years_eq rfl)
theorem dX1_daysOf400Years_5 : decode cX1_daysOf400Years 5 = .ok (.iconst 1, 1) := dz_4 (kin0 (p := 5) kRcX1_daysOf400Years_eq rfl)
theorem dX1_daysOf400Years_6 : decode cX1_daysOf400Years 6 = .ok (.invokestatic 50, 3) := dz_184 (kin0 (p := 6) kRcX1_daysOf400Years_eq rfl) (kin0 (p := 7) kRcX1_daysOf400Years_eq rfl) (kin0 (p := 8) kRcX1_daysOf400Years_eq rfl) rfl
theorem dX1_daysOf400Years_9 : decode cX1_daysOf400Years 9 = .ok (.iconst 1, 1) := dz_4 (kin0 (p := 9) kRcX1_daysOf400Years_eq rfl)
theorem dX1_daysOf400Years_10 : decode cX1_daysOf400Years 10 = .ok (.invokestatic 265, 3) := dz_184 (kin0 (p := 10) kRcX1_daysOf400Years_eq rfl) (kin0 (p := 11) kRcX1_daysOf400Years_eq rfl) (kin0 (p := 12) kRcX1_daysOf400Years_eq rfl) rfl
theorem dX1_daysOf400Years_13 : decode cX1_daysOf400Years 13 = .ok (.iload_n 0, 1) := dz_26 (kin0 (p := 13) kRcX1_daysOf400Years_eq rfl)
theorem dX1_daysOf400Years_14 : decode cX1_daysOf400Years 14 = .ok (.iconst 1, 1) := dz_4 (kin0 (p := 14) kRcX1_daysOf400Years_eq rfl)
theorem dX1_daysOf400Years_15 : decode cX1_daysOf400Years 15 = .ok (.invokestatic 50, 3) := dz_184 (kin0 (p := 15) kRcX1_daysOf400Years_eq rfl) (kin0 (p := 16) kRcX1_daysOf400Years_eq rfl) (kin0 (p := 17) kRcX1_daysOf400Years_eq rfl) rfl
theorem dX1_daysOf400Years_18 : decode cX1_daysOf400Years 18 = .ok (.iconst 1, 1) := dz_4 (kin0 (p := 18) kRcX1_daysOf400Years_eq rfl)
theorem dX1_daysOf400Years_19 : decode cX1_daysOf400Years 19 = .ok (.invokestatic 265, 3) := dz_184 (kin0 (p := 19) kRcX1_daysOf400Years_eq rfl) (kin0 (p := 20) kRcX1_daysOf400Years_eq rfl) (kin0 (p := 21) kRcX1_daysOf400Years_eq rfl) rfl
theorem dX1_daysOf400Years_22 : decode cX1_daysOf400Years 22 = .ok (.lsub, 1) := dz_101 (kin0 (p := 22) kRcX1_daysOf400Years_eq rfl)
theorem dX1_daysOf400Years_23 : decode cX1_daysOf400Years 23 = .ok (.lreturn, 1) := dz_173 (kin0 (p := 23) kRcX1_daysOf400Years_eq rfl)
def kCcX1_isPairSound_0 : List Nat := [42, 180, 0, 9, 27, 47, 184, 0, 81, 133, 42, 180, 0, 9, 28, 47, 184, 0, 81, 133, 3, 184, 0, 168, 62, 29, 154, 0, 28, 42, 180, 0]
def kCcX1_isPairSound_1 : List Nat := [9, 27, 47, 184, 0, 77, 133, 42, 180, 0, 9, 28, 47, 184, 0, 77, 133, 3, 184, 0, 168, 62, 42, 180, 0, 13, 27, 46, 133, 42, 180, 0]
def kCcX1_isPairSound_2 : List Nat := [13, 28, 46, 133, 3, 184, 0, 168, 54, 4, 42, 180, 0, 13, 27, 46, 4, 184, 0, 50, 55, 5, 42, 180, 0, 13, 28, 46, 4, 184, 0, 50]
def kCcX1_isPairSound_3 : List Nat := [55, 7, 42, 27, 182, 0, 125, 133, 42, 28, 182, 0, 125, 133, 3, 184, 0, 168, 54, 9, 29, 42, 180, 0, 9, 27, 47, 42, 180, 0, 9, 28]
def kCcX1_isPairSound_4 : List Nat := [47, 3, 184, 0, 168, 160, 0, 45, 21, 4, 22, 5, 22, 7, 3, 184, 0, 168, 160, 0, 32, 21, 9, 42, 27, 17, 7, 208, 182, 1, 48, 42]
def kCcX1_isPairSound_5 : List Nat := [28, 17, 7, 208, 182, 1, 48, 3, 184, 0, 168, 160, 0, 7, 4, 167, 0, 4, 3, 172]
def kRcX1_isPairSound_6 : List Nat := []
def kRcX1_isPairSound_5 : List Nat := kCcX1_isPairSound_5 ++ kRcX1_isPairSound_6
def kRcX1_isPairSound_4 : List Nat := kCcX1_isPairSound_4 ++ kRcX1_isPairSound_5
def kRcX1_isPairSound_3 : List Nat := kCcX1_isPairSound_3 ++ kRcX1_isPairSound_4
def kRcX1_isPairSound_2 : List Nat := kCcX1_isPairSound_2 ++ kRcX1_isPairSound_3
def kRcX1_isPairSound_1 : List Nat := kCcX1_isPairSound_1 ++ kRcX1_isPairSound_2
def kRcX1_isPairSound_0 : List Nat := kCcX1_isPairSound_0 ++ kRcX1_isPairSound_1
theorem kRcX1_isPairSound_eq : cX1_isPairSound.data.toList.map UInt8.toNat = kRcX1_isPairSound_0 := by decide +kernel
theorem katcX1_isPairSound_0 (i : Nat) : (cX1_isPairSound.data.toList.map UInt8.toNat)[0 + i]? = kRcX1_isPairSound_0[i]? := by rw [kRcX1_isPairSound_eq, Nat.zero_add]
theorem katcX1_isPairSound_1 : ∀ i : Nat, (cX1_isPairSound.data.toList.map UInt8.toNat)[32 + i]? = kRcX1_isPairSound_1[i]? := kstep katcX1_isPairSound_0 (C := kCcX1_isPairSound_0) rfl rfl
theorem katcX1_isPairSound_2 : ∀ i : Nat, (cX1_isPairSound.data.toList.map UInt8.toNat)[64 + i]? = kRcX1_isPairSound_2[i]? := kstep katcX1_isPairSound_1 (C := kCcX1_isPairSound_1) rfl rfl
theorem katcX1_isPairSound_3 : ∀ i : Nat, (cX1_isPairSound.data.toList.map UInt8.toNat)[96 + i]? = kRcX1_isPairSound_3[i]? := kstep katcX1_isPairSound_2 (C := kCcX1_isPairSound_2) rfl rfl
theorem katcX1_isPairSound_4 : ∀ i : Nat, (cX1_isPairSound.data.toList.map UInt8.toNat)[128 + i]? = kRcX1_isPairSound_4[i]? := kstep katcX1_isPairSound_3 (C := kCcX1_isPairSound_3) rfl rfl
theorem katcX1_isPairSound_5 : ∀ i : Nat, (cX1_isPairSound.data.toList.map UInt8.toNat)[160 + i]? = kRcX1_isPairSound_5[i]? := kstep katcX1_isPairSound_4 (C := kCcX1_isPairSound_4) rfl rfl
theorem kBcX1_isPairSound_0 {b : Nat} (p : Nat) (hp : Nat.ble 0 p = true) (h : kCcX1_isPairSound_0[p - 0]? = some b) : kb cX1_isPairSound p b := kin katcX1_isPairSound_0 rfl hp h
theorem kBcX1_isPairSound_1 {b : Nat} (p : Nat) (hp : Nat.ble 32 p = true) (h : kCcX1_isPairSound_1[p - 32]? = some b) : kb cX1_isPairSound p b := kin katcX1_isPairSound_1 rfl hp h
theorem kBcX1_isPairSound_2 {b : Nat} (p : Nat) (hp : Nat.ble 64 p = true) (h : kCcX1_isPairSound_2[p - 64]? = some b) : kb cX1_isPairSound p b := kin katcX1_isPairSound_2 rfl hp h
theorem kBcX1_isPairSound_3 {b : Nat} (p : Nat) (hp : Nat.ble 96 p = true) (h : kCcX1_isPairSound_3[p - 96]? = some b) : kb cX1_isPairSound p b := kin katcX1_isPairSound_3 rfl hp h
theorem kBcX1_isPairSound_4 {b : Nat} (p : Nat) (hp : Nat.ble 128 p = true) (h : kCcX1_isPairSound_4[p - 128]? = some b) : kb cX1_isPairSound p b := kin katcX1_isPairSound_4 rfl hp h
theorem kBcX1_isPairSound_5 {b : Nat} (p : Nat) (hp : Nat.ble 160 p = true) (h : kCcX1_isPairSound_5[p - 160]? = some b) : kb cX1_isPairSound p b := kin katcX1_isPairSound_5 rfl hp h
theorem dX1_isPairSound_0 : decode cX1_isPairSound 0 = .ok (.aload_n 0, 1) := dz_42 (kBcX1_isPairSound_0 0 rfl rfl)
theorem dX1_isPairSound_1 : decode cX1_isPairSound 1 = .ok (.getfield 9, 3) := dz_180 (kBcX1_isPairSound_0 1 rfl rfl) (kBcX1_isPairSound_0 2 rfl rfl) (kBcX1_isPairSound_0 3 rfl rfl) rfl
theorem dX1_isPairSound_4 : decode cX1_isPairSound 4 = .ok (.iload_n 1, 1) := dz_27 (kBcX1_isPairSound_0 4 rfl rfl)
theorem dX1_isPairSound_5 : decode cX1_isPairSound 5 = .ok (.laload, 1) := dz_47 (kBcX1_isPairSound_0 5 rfl rfl)
theorem dX1_isPairSound_6 : decode cX1_isPairSound 6 = .ok (.invokestatic 81, 3) := dz_184 (kBcX1_isPairSound_0 6 rfl rfl) (kBcX1_isPairSound_0 7 rfl rfl) (kBcX1_isPairSound_0 8 rfl rfl) rfl
theorem dX1_isPairSound_9 : decode cX1_isPairSound 9 = .ok (.i2l, 1) := dz_133 (kBcX1_isPairSound_0 9 rfl rfl)
theorem dX1_isPairSound_10 : decode cX1_isPairSound 10 = .ok (.aload_n 0, 1) := dz_42 (kBcX1_isPairSound_0 10 rfl rfl)
theorem dX1_isPairSound_11 : decode cX1_isPairSound 11 = .ok (.getfield 9, 3) := dz_180 (kBcX1_isPairSound_0 11 rfl rfl) (kBcX1_isPairSound_0 12 rfl rfl) (kBcX1_isPairSound_0 13 rfl rfl) rfl
theorem dX1_isPairSound_14 : decode cX1_isPairSound 14 = .ok (.iload_n 2, 1) := dz_28 (kBcX1_isPairSound_0 14 rfl rfl)
theorem dX1_isPairSound_15 : decode cX1_isPairSound 15 = .ok (.laload, 1) := dz_47 (kBcX1_isPairSound_0 15 rfl rfl)
theorem dX1_isPairSound_16 : decode cX1_isPairSound 16 = .ok (.invokestatic 81, 3) := dz_184 (kBcX1_isPairSound_0 16 rfl rfl) (kBcX1_isPairSound_0 17 rfl rfl) (kBcX1_isPairSound_0 18 rfl rfl) rfl
theorem dX1_isPairSound_19 : decode cX1_isPairSound 19 = .ok (.i2l, 1) := dz_133 (kBcX1_isPairSound_0 19 rfl rfl)
theorem dX1_isPairSound_20 : decode cX1_isPairSound 20 = .ok (.iconst 0, 1) := dz_3 (kBcX1_isPairSound_0 20 rfl rfl)
theorem dX1_isPairSound_21 : decode cX1_isPairSound 21 = .ok (.invokestatic 168, 3) := dz_184 (kBcX1_isPairSound_0 21 rfl rfl) (kBcX1_isPairSound_0 22 rfl rfl) (kBcX1_isPairSound_0 23 rfl rfl) rfl
theorem dX1_isPairSound_24 : decode cX1_isPairSound 24 = .ok (.istore_n 3, 1) := dz_62 (kBcX1_isPairSound_0 24 rfl rfl)
theorem dX1_isPairSound_25 : decode cX1_isPairSound 25 = .ok (.iload_n 3, 1) := dz_29 (kBcX1_isPairSound_0 25 rfl rfl)
theorem dX1_isPairSound_26 : decode cX1_isPairSound 26 = .ok (.ifCond .ne 28, 3) := dz_154 (kBcX1_isPairSound_0 26 rfl rfl) (kBcX1_isPairSound_0 27 rfl rfl) (kBcX1_isPairSound_0 28 rfl rfl) rfl
theorem dX1_isPairSound_29 : decode cX1_isPairSound 29 = .ok (.aload_n 0, 1) := dz_42 (kBcX1_isPairSound_0 29 rfl rfl)
theorem dX1_isPairSound_30 : decode cX1_isPairSound 30 = .ok (.getfield 9, 3) := dz_180 (kBcX1_isPairSound_0 30 rfl rfl) (kBcX1_isPairSound_0 31 rfl rfl) (kBcX1_isPairSound_1 32 rfl rfl) rfl
theorem dX1_isPairSound_33 : decode cX1_isPairSound 33 = .ok (.iload_n 1, 1) := dz_27 (kBcX1_isPairSound_1 33 rfl rfl)
theorem dX1_isPairSound_34 : decode cX1_isPairSound 34 = .ok (.laload, 1) := dz_47 (kBcX1_isPairSound_1 34 rfl rfl)
theorem dX1_isPairSound_35 : decode cX1_isPairSound 35 = .ok (.invokestatic 77, 3) := dz_184 (kBcX1_isPairSound_1 35 rfl rfl) (kBcX1_isPairSound_1 36 rfl rfl) (kBcX1_isPairSound_1 37 rfl rfl) rfl
theorem dX1_isPairSound_38 : decode cX1_isPairSound 38 = .ok (.i2l, 1) := dz_133 (kBcX1_isPairSound_1 38 rfl rfl)
theorem dX1_isPairSound_39 : decode cX1_isPairSound 39 = .ok (.aload_n 0, 1) := dz_42 (kBcX1_isPairSound_1 39 rfl rfl)
theorem dX1_isPairSound_40 : decode cX1_isPairSound 40 = .ok (.getfield 9, 3) := dz_180 (kBcX1_isPairSound_1 40 rfl rfl) (kBcX1_isPairSound_1 41 rfl rfl) (kBcX1_isPairSound_1 42 rfl rfl) rfl
theorem dX1_isPairSound_43 : decode cX1_isPairSound 43 = .ok (.iload_n 2, 1) := dz_28 (kBcX1_isPairSound_1 43 rfl rfl)
theorem dX1_isPairSound_44 : decode cX1_isPairSound 44 = .ok (.laload, 1) := dz_47 (kBcX1_isPairSound_1 44 rfl rfl)
theorem dX1_isPairSound_45 : decode cX1_isPairSound 45 = .ok (.invokestatic 77, 3) := dz_184 (kBcX1_isPairSound_1 45 rfl rfl) (kBcX1_isPairSound_1 46 rfl rfl) (kBcX1_isPairSound_1 47 rfl rfl) rfl
theorem dX1_isPairSound_48 : decode cX1_isPairSound 48 = .ok (.i2l, 1) := dz_133 (kBcX1_isPairSound_1 48 rfl rfl)
theorem dX1_isPairSound_49 : decode cX1_isPairSound 49 = .ok (.iconst 0, 1) := dz_3 (kBcX1_isPairSound_1 49 rfl rfl)
theorem dX1_isPairSound_50 : decode cX1_isPairSound 50 = .ok (.invokestatic 168, 3) := dz_184 (kBcX1_isPairSound_1 50 rfl rfl) (kBcX1_isPairSound_1 51 rfl rfl) (kBcX1_isPairSound_1 52 rfl rfl) rfl
theorem dX1_isPairSound_53 : decode cX1_isPairSound 53 = .ok (.istore_n 3, 1) := dz_62 (kBcX1_isPairSound_1 53 rfl rfl)
theorem dX1_isPairSound_54 : decode cX1_isPairSound 54 = .ok (.aload_n 0, 1) := dz_42 (kBcX1_isPairSound_1 54 rfl rfl)
theorem dX1_isPairSound_55 : decode cX1_isPairSound 55 = .ok (.getfield 13, 3) := dz_180 (kBcX1_isPairSound_1 55 rfl rfl) (kBcX1_isPairSound_1 56 rfl rfl) (kBcX1_isPairSound_1 57 rfl rfl) rfl
theorem dX1_isPairSound_58 : decode cX1_isPairSound 58 = .ok (.iload_n 1, 1) := dz_27 (kBcX1_isPairSound_1 58 rfl rfl)
theorem dX1_isPairSound_59 : decode cX1_isPairSound 59 = .ok (.iaload, 1) := dz_46 (kBcX1_isPairSound_1 59 rfl rfl)
theorem dX1_isPairSound_60 : decode cX1_isPairSound 60 = .ok (.i2l, 1) := dz_133 (kBcX1_isPairSound_1 60 rfl rfl)
theorem dX1_isPairSound_61 : decode cX1_isPairSound 61 = .ok (.aload_n 0, 1) := dz_42 (kBcX1_isPairSound_1 61 rfl rfl)
theorem dX1_isPairSound_62 : decode cX1_isPairSound 62 = .ok (.getfield 13, 3) := dz_180 (kBcX1_isPairSound_1 62 rfl rfl) (kBcX1_isPairSound_1 63 rfl rfl) (kBcX1_isPairSound_2 64 rfl rfl) rfl
theorem dX1_isPairSound_65 : decode cX1_isPairSound 65 = .ok (.iload_n 2, 1) := dz_28 (kBcX1_isPairSound_2 65 rfl rfl)
theorem dX1_isPairSound_66 : decode cX1_isPairSound 66 = .ok (.iaload, 1) := dz_46 (kBcX1_isPairSound_2 66 rfl rfl)
theorem dX1_isPairSound_67 : decode cX1_isPairSound 67 = .ok (.i2l, 1) := dz_133 (kBcX1_isPairSound_2 67 rfl rfl)
theorem dX1_isPairSound_68 : decode cX1_isPairSound 68 = .ok (.iconst 0, 1) := dz_3 (kBcX1_isPairSound_2 68 rfl rfl)
theorem dX1_isPairSound_69 : decode cX1_isPairSound 69 = .ok (.invokestatic 168, 3) := dz_184 (kBcX1_isPairSound_2 69 rfl rfl) (kBcX1_isPairSound_2 70 rfl rfl) (kBcX1_isPairSound_2 71 rfl rfl) rfl
theorem dX1_isPairSound_72 : decode cX1_isPairSound 72 = .ok (.istore 4, 2) := dz_54 (kBcX1_isPairSound_2 72 rfl rfl) (kBcX1_isPairSound_2 73 rfl rfl)
theorem dX1_isPairSound_74 : decode cX1_isPairSound 74 = .ok (.aload_n 0, 1) := dz_42 (kBcX1_isPairSound_2 74 rfl rfl)
theorem dX1_isPairSound_75 : decode cX1_isPairSound 75 = .ok (.getfield 13, 3) := dz_180 (kBcX1_isPairSound_2 75 rfl rfl) (kBcX1_isPairSound_2 76 rfl rfl) (kBcX1_isPairSound_2 77 rfl rfl) rfl
theorem dX1_isPairSound_78 : decode cX1_isPairSound 78 = .ok (.iload_n 1, 1) := dz_27 (kBcX1_isPairSound_2 78 rfl rfl)
theorem dX1_isPairSound_79 : decode cX1_isPairSound 79 = .ok (.iaload, 1) := dz_46 (kBcX1_isPairSound_2 79 rfl rfl)
theorem dX1_isPairSound_80 : decode cX1_isPairSound 80 = .ok (.iconst 1, 1) := dz_4 (kBcX1_isPairSound_2 80 rfl rfl)
theorem dX1_isPairSound_81 : decode cX1_isPairSound 81 = .ok (.invokestatic 50, 3) := dz_184 (kBcX1_isPairSound_2 81 rfl rfl) (kBcX1_isPairSound_2 82 rfl rfl) (kBcX1_isPairSound_2 83 rfl rfl) rfl
theorem dX1_isPairSound_84 : decode cX1_isPairSound 84 = .ok (.lstore 5, 2) := dz_55 (kBcX1_isPairSound_2 84 rfl rfl) (kBcX1_isPairSound_2 85 rfl rfl)
theorem dX1_isPairSound_86 : decode cX1_isPairSound 86 = .ok (.aload_n 0, 1) := dz_42 (kBcX1_isPairSound_2 86 rfl rfl)
theorem dX1_isPairSound_87 : decode cX1_isPairSound 87 = .ok (.getfield 13, 3) := dz_180 (kBcX1_isPairSound_2 87 rfl rfl) (kBcX1_isPairSound_2 88 rfl rfl) (kBcX1_isPairSound_2 89 rfl rfl) rfl
theorem dX1_isPairSound_90 : decode cX1_isPairSound 90 = .ok (.iload_n 2, 1) := dz_28 (kBcX1_isPairSound_2 90 rfl rfl)
theorem dX1_isPairSound_91 : decode cX1_isPairSound 91 = .ok (.iaload, 1) := dz_46 (kBcX1_isPairSound_2 91 rfl rfl)
theorem dX1_isPairSound_92 : decode cX1_isPairSound 92 = .ok (.iconst 1, 1) := dz_4 (kBcX1_isPairSound_2 92 rfl rfl)
theorem dX1_isPairSound_93 : decode cX1_isPairSound 93 = .ok (.invokestatic 50, 3) := dz_184 (kBcX1_isPairSound_2 93 rfl rfl) (kBcX1_isPairSound_2 94 rfl rfl) (kBcX1_isPairSound_2 95 rfl rfl) rfl
theorem dX1_isPairSound_96 : decode cX1_isPairSound 96 = .ok (.lstore 7, 2) := dz_55 (kBcX1_isPairSound_3 96 rfl rfl) (kBcX1_isPairSound_3 97 rfl rfl)
theorem dX1_isPairSound_98 : decode cX1_isPairSound 98 = .ok (.aload_n 0, 1) := dz_42 (kBcX1_isPairSound_3 98 rfl rfl)
theorem dX1_isPairSound_99 : decode cX1_isPairSound 99 = .ok (.iload_n 1, 1) := dz_27 (kBcX1_isPairSound_3 99 rfl rfl)
theorem dX1_isPairSound_100 : decode cX1_isPairSound 100 = .ok (.invokevirtual 125, 3) := dz_182 (kBcX1_isPairSound_3 100 rfl rfl) (kBcX1_isPairSound_3 101 rfl rfl) (kBcX1_isPairSound_3 102 rfl rfl) rfl
theorem dX1_isPairSound_103 : decode cX1_isPairSound 103 = .ok (.i2l, 1) := dz_133 (kBcX1_isPairSound_3 103 rfl rfl)
theorem dX1_isPairSound_104 : decode cX1_isPairSound 104 = .ok (.aload_n 0, 1) := dz_42 (kBcX1_isPairSound_3 104 rfl rfl)
theorem dX1_isPairSound_105 : decode cX1_isPairSound 105 = .ok (.iload_n 2, 1) := dz_28 (kBcX1_isPairSound_3 105 rfl rfl)
theorem dX1_isPairSound_106 : decode cX1_isPairSound 106 = .ok (.invokevirtual 125, 3) := dz_182 (kBcX1_isPairSound_3 106 rfl rfl) (kBcX1_isPairSound_3 107 rfl rfl) (kBcX1_isPairSound_3 108 rfl rfl) rfl
theorem dX1_isPairSound_109 : decode cX1_isPairSound 109 = .ok (.i2l, 1) := dz_133 (kBcX1_isPairSound_3 109 rfl rfl)
theorem dX1_isPairSound_110 : decode cX1_isPairSound 110 = .ok (.iconst 0, 1) := dz_3 (kBcX1_isPairSound_3 110 rfl rfl)
theorem dX1_isPairSound_111 : decode cX1_isPairSound 111 = .ok (.invokestatic 168, 3) := dz_184 (kBcX1_isPairSound_3 111 rfl rfl) (kBcX1_isPairSound_3 112 rfl rfl) (kBcX1_isPairSound_3 113 rfl rfl) rfl
theorem dX1_isPairSound_114 : decode cX1_isPairSound 114 = .ok (.istore 9, 2) := dz_54 (kBcX1_isPairSound_3 114 rfl rfl) (kBcX1_isPairSound_3 115 rfl rfl)
theorem dX1_isPairSound_116 : decode cX1_isPairSound 116 = .ok (.iload_n 3, 1) := dz_29 (kBcX1_isPairSound_3 116 rfl rfl)
theorem dX1_isPairSound_117 : decode cX1_isPairSound 117 = .ok (.aload_n 0, 1) := dz_42 (kBcX1_isPairSound_3 117 rfl rfl)
theorem dX1_isPairSound_118 : decode cX1_isPairSound 118 = .ok (.getfield 9, 3) := dz_180 (kBcX1_isPairSound_3 118 rfl rfl) (kBcX1_isPairSound_3 119 rfl rfl) (kBcX1_isPairSound_3 120 rfl rfl) rfl
theorem dX1_isPairSound_121 : decode cX1_isPairSound 121 = .ok (.iload_n 1, 1) := dz_27 (kBcX1_isPairSound_3 121 rfl rfl)
theorem dX1_isPairSound_122 : decode cX1_isPairSound 122 = .ok (.laload, 1) := dz_47 (kBcX1_isPairSound_3 122 rfl rfl)
theorem dX1_isPairSound_123 : decode cX1_isPairSound 123 = .ok (.aload_n 0, 1) := dz_42 (kBcX1_isPairSound_3 123 rfl rfl)
theorem dX1_isPairSound_124 : decode cX1_isPairSound 124 = .ok (.getfield 9, 3) := dz_180 (kBcX1_isPairSound_3 124 rfl rfl) (kBcX1_isPairSound_3 125 rfl rfl) (kBcX1_isPairSound_3 126 rfl rfl) rfl
theorem dX1_isPairSound_127 : decode cX1_isPairSound 127 = .ok (.iload_n 2, 1) := dz_28 (kBcX1_isPairSound_3 127 rfl rfl)
theorem dX1_isPairSound_128 : decode cX1_isPairSound 128 = .ok (.laload, 1) := dz_47 (kBcX1_isPairSound_4 128 rfl rfl)
theorem dX1_isPairSound_129 : decode cX1_isPairSound 129 = .ok (.iconst 0, 1) := dz_3 (kBcX1_isPairSound_4 129 rfl rfl)
theorem dX1_isPairSound_130 : decode cX1_isPairSound 130 = .ok (.invokestatic 168, 3) := dz_184 (kBcX1_isPairSound_4 130 rfl rfl) (kBcX1_isPairSound_4 131 rfl rfl) (kBcX1_isPairSound_4 132 rfl rfl) rfl
theorem dX1_isPairSound_133 : decode cX1_isPairSound 133 = .ok (.if_icmp .ne 45, 3) := dz_160 (kBcX1_isPairSound_4 133 rfl rfl) (kBcX1_isPairSound_4 134 rfl rfl) (kBcX1_isPairSound_4 135 rfl rfl) rfl
theorem dX1_isPairSound_136 : decode cX1_isPairSound 136 = .ok (.iload 4, 2) := dz_21 (kBcX1_isPairSound_4 136 rfl rfl) (kBcX1_isPairSound_4 137 rfl rfl)
theorem dX1_isPairSound_138 : decode cX1_isPairSound 138 = .ok (.lload 5, 2) := dz_22 (kBcX1_isPairSound_4 138 rfl rfl) (kBcX1_isPairSound_4 139 rfl rfl)
theorem dX1_isPairSound_140 : decode cX1_isPairSound 140 = .ok (.lload 7, 2) := dz_22 (kBcX1_isPairSound_4 140 rfl rfl) (kBcX1_isPairSound_4 141 rfl rfl)
theorem dX1_isPairSound_142 : decode cX1_isPairSound 142 = .ok (.iconst 0, 1) := dz_3 (kBcX1_isPairSound_4 142 rfl rfl)
theorem dX1_isPairSound_143 : decode cX1_isPairSound 143 = .ok (.invokestatic 168, 3) := dz_184 (kBcX1_isPairSound_4 143 rfl rfl) (kBcX1_isPairSound_4 144 rfl rfl) (kBcX1_isPairSound_4 145 rfl rfl) rfl
theorem dX1_isPairSound_146 : decode cX1_isPairSound 146 = .ok (.if_icmp .ne 32, 3) := dz_160 (kBcX1_isPairSound_4 146 rfl rfl) (kBcX1_isPairSound_4 147 rfl rfl) (kBcX1_isPairSound_4 148 rfl rfl) rfl
theorem dX1_isPairSound_149 : decode cX1_isPairSound 149 = .ok (.iload 9, 2) := dz_21 (kBcX1_isPairSound_4 149 rfl rfl) (kBcX1_isPairSound_4 150 rfl rfl)
theorem dX1_isPairSound_151 : decode cX1_isPairSound 151 = .ok (.aload_n 0, 1) := dz_42 (kBcX1_isPairSound_4 151 rfl rfl)
theorem dX1_isPairSound_152 : decode cX1_isPairSound 152 = .ok (.iload_n 1, 1) := dz_27 (kBcX1_isPairSound_4 152 rfl rfl)
theorem dX1_isPairSound_153 : decode cX1_isPairSound 153 = .ok (.sipush 2000, 3) := dz_17 (kBcX1_isPairSound_4 153 rfl rfl) (kBcX1_isPairSound_4 154 rfl rfl) (kBcX1_isPairSound_4 155 rfl rfl) rfl
theorem dX1_isPairSound_156 : decode cX1_isPairSound 156 = .ok (.invokevirtual 304, 3) := dz_182 (kBcX1_isPairSound_4 156 rfl rfl) (kBcX1_isPairSound_4 157 rfl rfl) (kBcX1_isPairSound_4 158 rfl rfl) rfl
theorem dX1_isPairSound_159 : decode cX1_isPairSound 159 = .ok (.aload_n 0, 1) := dz_42 (kBcX1_isPairSound_4 159 rfl rfl)
theorem dX1_isPairSound_160 : decode cX1_isPairSound 160 = .ok (.iload_n 2, 1) := dz_28 (kBcX1_isPairSound_5 160 rfl rfl)
theorem dX1_isPairSound_161 : decode cX1_isPairSound 161 = .ok (.sipush 2000, 3) := dz_17 (kBcX1_isPairSound_5 161 rfl rfl) (kBcX1_isPairSound_5 162 rfl rfl) (kBcX1_isPairSound_5 163 rfl rfl) rfl
theorem dX1_isPairSound_164 : decode cX1_isPairSound 164 = .ok (.invokevirtual 304, 3) := dz_182 (kBcX1_isPairSound_5 164 rfl rfl) (kBcX1_isPairSound_5 165 rfl rfl) (kBcX1_isPairSound_5 166 rfl rfl) rfl
theorem dX1_isPairSound_167 : decode cX1_isPairSound 167 = .ok (.iconst 0, 1) := dz_3 (kBcX1_isPairSound_5 167 rfl rfl)
theorem dX1_isPairSound_168 : decode cX1_isPairSound 168 = .ok (.invokestatic 168, 3) := dz_184 (kBcX1_isPairSound_5 168 rfl rfl) (kBcX1_isPairSound_5 169 rfl rfl) (kBcX1_isPairSound_5 170 rfl rfl) rfl
theorem dX1_isPairSound_171 : decode cX1_isPairSound 171 = .ok (.if_icmp .ne 7, 3) := dz_160 (kBcX1_isPairSound_5 171 rfl rfl) (kBcX1_isPairSound_5 172 rfl rfl) (kBcX1_isPairSound_5 173 rfl rfl) rfl
theorem dX1_isPairSound_174 : decode cX1_isPairSound 174 = .ok (.iconst 1, 1) := dz_4 (kBcX1_isPairSound_5 174 rfl rfl)
theorem dX1_isPairSound_175 : decode cX1_isPairSound 175 = .ok (.goto 4, 3) := dz_167 (kBcX1_isPairSound_5 175 rfl rfl) (kBcX1_isPairSound_5 176 rfl rfl) (kBcX1_isPairSound_5 177 rfl rfl) rfl
theorem dX1_isPairSound_178 : decode cX1_isPairSound 178 = .ok (.iconst 0, 1) := dz_3 (kBcX1_isPairSound_5 178 rfl rfl)
theorem dX1_isPairSound_179 : decode cX1_isPairSound 179 = .ok (.ireturn, 1) := dz_172 (kBcX1_isPairSound_5 179 rfl rfl)
def kCcX1_isFeastSound_0 : List Nat := [28, 42, 180, 0, 17, 27, 46, 184, 0, 50, 66, 33, 42, 180, 0, 20, 27, 46, 184, 0, 128, 54, 5, 21, 5, 153, 0, 12, 42, 180, 0, 20]
def kCcX1_isFeastSound_1 : List Nat := [27, 46, 167, 0, 5, 16, 28, 54, 6, 21, 5, 42, 27, 28, 182, 0, 176, 160, 0, 23, 33, 21, 6, 184, 1, 9, 42, 27, 28, 182, 1, 48]
def kCcX1_isFeastSound_2 : List Nat := [148, 154, 0, 7, 4, 167, 0, 4, 3, 172]
def kRcX1_isFeastSound_3 : List Nat := []
def kRcX1_isFeastSound_2 : List Nat := kCcX1_isFeastSound_2 ++ kRcX1_isFeastSound_3
def kRcX1_isFeastSound_1 : List Nat := kCcX1_isFeastSound_1 ++ kRcX1_isFeastSound_2
def kRcX1_isFeastSound_0 : List Nat := kCcX1_isFeastSound_0 ++ kRcX1_isFeastSound_1
theorem kRcX1_isFeastSound_eq : cX1_isFeastSound.data.toList.map UInt8.toNat = kRcX1_isFeastSound_0 := by decide +kernel
theorem katcX1_isFeastSound_0 (i : Nat) : (cX1_isFeastSound.data.toList.map UInt8.toNat)[0 + i]? = kRcX1_isFeastSound_0[i]? := by rw [kRcX1_isFeastSound_eq, Nat.zero_add]
theorem katcX1_isFeastSound_1 : ∀ i : Nat, (cX1_isFeastSound.data.toList.map UInt8.toNat)[32 + i]? = kRcX1_isFeastSound_1[i]? := kstep katcX1_isFeastSound_0 (C := kCcX1_isFeastSound_0) rfl rfl
theorem katcX1_isFeastSound_2 : ∀ i : Nat, (cX1_isFeastSound.data.toList.map UInt8.toNat)[64 + i]? = kRcX1_isFeastSound_2[i]? := kstep katcX1_isFeastSound_1 (C := kCcX1_isFeastSound_1) rfl rfl
theorem kBcX1_isFeastSound_0 {b : Nat} (p : Nat) (hp : Nat.ble 0 p = true) (h : kCcX1_isFeastSound_0[p - 0]? = some b) : kb cX1_isFeastSound p b := kin katcX1_isFeastSound_0 rfl hp h
theorem kBcX1_isFeastSound_1 {b : Nat} (p : Nat) (hp : Nat.ble 32 p = true) (h : kCcX1_isFeastSound_1[p - 32]? = some b) : kb cX1_isFeastSound p b := kin katcX1_isFeastSound_1 rfl hp h
theorem kBcX1_isFeastSound_2 {b : Nat} (p : Nat) (hp : Nat.ble 64 p = true) (h : kCcX1_isFeastSound_2[p - 64]? = some b) : kb cX1_isFeastSound p b := kin katcX1_isFeastSound_2 rfl hp h
theorem dX1_isFeastSound_0 : decode cX1_isFeastSound 0 = .ok (.iload_n 2, 1) := dz_28 (kBcX1_isFeastSound_0 0 rfl rfl)
theorem dX1_isFeastSound_1 : decode cX1_isFeastSound 1 = .ok (.aload_n 0, 1) := dz_42 (kBcX1_isFeastSound_0 1 rfl rfl)
theorem dX1_isFeastSound_2 : decode cX1_isFeastSound 2 = .ok (.getfield 17, 3) := dz_180 (kBcX1_isFeastSound_0 2 rfl rfl) (kBcX1_isFeastSound_0 3 rfl rfl) (kBcX1_isFeastSound_0 4 rfl rfl) rfl
theorem dX1_isFeastSound_5 : decode cX1_isFeastSound 5 = .ok (.iload_n 1, 1) := dz_27 (kBcX1_isFeastSound_0 5 rfl rfl)
theorem dX1_isFeastSound_6 : decode cX1_isFeastSound 6 = .ok (.iaload, 1) := dz_46 (kBcX1_isFeastSound_0 6 rfl rfl)
theorem dX1_isFeastSound_7 : decode cX1_isFeastSound 7 = .ok (.invokestatic 50, 3) := dz_184 (kBcX1_isFeastSound_0 7 rfl rfl) (kBcX1_isFeastSound_0 8 rfl rfl) (kBcX1_isFeastSound_0 9 rfl rfl) rfl
theorem dX1_isFeastSound_10 : decode cX1_isFeastSound 10 = .ok (.lstore_n 3, 1) := dz_66 (kBcX1_isFeastSound_0 10 rfl rfl)
theorem dX1_isFeastSound_11 : decode cX1_isFeastSound 11 = .ok (.lload_n 3, 1) := dz_33 (kBcX1_isFeastSound_0 11 rfl rfl)
theorem dX1_isFeastSound_12 : decode cX1_isFeastSound 12 = .ok (.aload_n 0, 1) := dz_42 (kBcX1_isFeastSound_0 12 rfl rfl)
theorem dX1_isFeastSound_13 : decode cX1_isFeastSound 13 = .ok (.getfield 20, 3) := dz_180 (kBcX1_isFeastSound_0 13 rfl rfl) (kBcX1_isFeastSound_0 14 rfl rfl) (kBcX1_isFeastSound_0 15 rfl rfl) rfl
theorem dX1_isFeastSound_16 : decode cX1_isFeastSound 16 = .ok (.iload_n 1, 1) := dz_27 (kBcX1_isFeastSound_0 16 rfl rfl)
theorem dX1_isFeastSound_17 : decode cX1_isFeastSound 17 = .ok (.iaload, 1) := dz_46 (kBcX1_isFeastSound_0 17 rfl rfl)
theorem dX1_isFeastSound_18 : decode cX1_isFeastSound 18 = .ok (.invokestatic 128, 3) := dz_184 (kBcX1_isFeastSound_0 18 rfl rfl) (kBcX1_isFeastSound_0 19 rfl rfl) (kBcX1_isFeastSound_0 20 rfl rfl) rfl
theorem dX1_isFeastSound_21 : decode cX1_isFeastSound 21 = .ok (.istore 5, 2) := dz_54 (kBcX1_isFeastSound_0 21 rfl rfl) (kBcX1_isFeastSound_0 22 rfl rfl)
theorem dX1_isFeastSound_23 : decode cX1_isFeastSound 23 = .ok (.iload 5, 2) := dz_21 (kBcX1_isFeastSound_0 23 rfl rfl) (kBcX1_isFeastSound_0 24 rfl rfl)
theorem dX1_isFeastSound_25 : decode cX1_isFeastSound 25 = .ok (.ifCond .eq 12, 3) := dz_153 (kBcX1_isFeastSound_0 25 rfl rfl) (kBcX1_isFeastSound_0 26 rfl rfl) (kBcX1_isFeastSound_0 27 rfl rfl) rfl
theorem dX1_isFeastSound_28 : decode cX1_isFeastSound 28 = .ok (.aload_n 0, 1) := dz_42 (kBcX1_isFeastSound_0 28 rfl rfl)
theorem dX1_isFeastSound_29 : decode cX1_isFeastSound 29 = .ok (.getfield 20, 3) := dz_180 (kBcX1_isFeastSound_0 29 rfl rfl) (kBcX1_isFeastSound_0 30 rfl rfl) (kBcX1_isFeastSound_0 31 rfl rfl) rfl
theorem dX1_isFeastSound_32 : decode cX1_isFeastSound 32 = .ok (.iload_n 1, 1) := dz_27 (kBcX1_isFeastSound_1 32 rfl rfl)
theorem dX1_isFeastSound_33 : decode cX1_isFeastSound 33 = .ok (.iaload, 1) := dz_46 (kBcX1_isFeastSound_1 33 rfl rfl)
theorem dX1_isFeastSound_34 : decode cX1_isFeastSound 34 = .ok (.goto 5, 3) := dz_167 (kBcX1_isFeastSound_1 34 rfl rfl) (kBcX1_isFeastSound_1 35 rfl rfl) (kBcX1_isFeastSound_1 36 rfl rfl) rfl
theorem dX1_isFeastSound_37 : decode cX1_isFeastSound 37 = .ok (.bipush 28, 2) := dz_16 (kBcX1_isFeastSound_1 37 rfl rfl) (kBcX1_isFeastSound_1 38 rfl rfl) rfl
theorem dX1_isFeastSound_39 : decode cX1_isFeastSound 39 = .ok (.istore 6, 2) := dz_54 (kBcX1_isFeastSound_1 39 rfl rfl) (kBcX1_isFeastSound_1 40 rfl rfl)
theorem dX1_isFeastSound_41 : decode cX1_isFeastSound 41 = .ok (.iload 5, 2) := dz_21 (kBcX1_isFeastSound_1 41 rfl rfl) (kBcX1_isFeastSound_1 42 rfl rfl)
theorem dX1_isFeastSound_43 : decode cX1_isFeastSound 43 = .ok (.aload_n 0, 1) := dz_42 (kBcX1_isFeastSound_1 43 rfl rfl)
theorem dX1_isFeastSound_44 : decode cX1_isFeastSound 44 = .ok (.iload_n 1, 1) := dz_27 (kBcX1_isFeastSound_1 44 rfl rfl)
theorem dX1_isFeastSound_45 : decode cX1_isFeastSound 45 = .ok (.iload_n 2, 1) := dz_28 (kBcX1_isFeastSound_1 45 rfl rfl)
theorem dX1_isFeastSound_46 : decode cX1_isFeastSound 46 = .ok (.invokevirtual 176, 3) := dz_182 (kBcX1_isFeastSound_1 46 rfl rfl) (kBcX1_isFeastSound_1 47 rfl rfl) (kBcX1_isFeastSound_1 48 rfl rfl) rfl
theorem dX1_isFeastSound_49 : decode cX1_isFeastSound 49 = .ok (.if_icmp .ne 23, 3) := dz_160 (kBcX1_isFeastSound_1 49 rfl rfl) (kBcX1_isFeastSound_1 50 rfl rfl) (kBcX1_isFeastSound_1 51 rfl rfl) rfl
theorem dX1_isFeastSound_52 : decode cX1_isFeastSound 52 = .ok (.lload_n 3, 1) := dz_33 (kBcX1_isFeastSound_1 52 rfl rfl)
theorem dX1_isFeastSound_53 : decode cX1_isFeastSound 53 = .ok (.iload 6, 2) := dz_21 (kBcX1_isFeastSound_1 53 rfl rfl) (kBcX1_isFeastSound_1 54 rfl rfl)
theorem dX1_isFeastSound_55 : decode cX1_isFeastSound 55 = .ok (.invokestatic 265, 3) := dz_184 (kBcX1_isFeastSound_1 55 rfl rfl) (kBcX1_isFeastSound_1 56 rfl rfl) (kBcX1_isFeastSound_1 57 rfl rfl) rfl
theorem dX1_isFeastSound_58 : decode cX1_isFeastSound 58 = .ok (.aload_n 0, 1) := dz_42 (kBcX1_isFeastSound_1 58 rfl rfl)
theorem dX1_isFeastSound_59 : decode cX1_isFeastSound 59 = .ok (.iload_n 1, 1) := dz_27 (kBcX1_isFeastSound_1 59 rfl rfl)
theorem dX1_isFeastSound_60 : decode cX1_isFeastSound 60 = .ok (.iload_n 2, 1) := dz_28 (kBcX1_isFeastSound_1 60 rfl rfl)
theorem dX1_isFeastSound_61 : decode cX1_isFeastSound 61 = .ok (.invokevirtual 304, 3) := dz_182 (kBcX1_isFeastSound_1 61 rfl rfl) (kBcX1_isFeastSound_1 62 rfl rfl) (kBcX1_isFeastSound_1 63 rfl rfl) rfl
theorem dX1_isFeastSound_64 : decode cX1_isFeastSound 64 = .ok (.lcmp, 1) := dz_148 (kBcX1_isFeastSound_2 64 rfl rfl)
theorem dX1_isFeastSound_65 : decode cX1_isFeastSound 65 = .ok (.ifCond .ne 7, 3) := dz_154 (kBcX1_isFeastSound_2 65 rfl rfl) (kBcX1_isFeastSound_2 66 rfl rfl) (kBcX1_isFeastSound_2 67 rfl rfl) rfl
theorem dX1_isFeastSound_68 : decode cX1_isFeastSound 68 = .ok (.iconst 1, 1) := dz_4 (kBcX1_isFeastSound_2 68 rfl rfl)
theorem dX1_isFeastSound_69 : decode cX1_isFeastSound 69 = .ok (.goto 4, 3) := dz_167 (kBcX1_isFeastSound_2 69 rfl rfl) (kBcX1_isFeastSound_2 70 rfl rfl) (kBcX1_isFeastSound_2 71 rfl rfl) rfl
theorem dX1_isFeastSound_72 : decode cX1_isFeastSound 72 = .ok (.iconst 0, 1) := dz_3 (kBcX1_isFeastSound_2 72 rfl rfl)
theorem dX1_isFeastSound_73 : decode cX1_isFeastSound 73 = .ok (.ireturn, 1) := dz_172 (kBcX1_isFeastSound_2 73 rfl rfl)
def kCcX1_withText_0 : List Nat := [42, 33, 182, 1, 15, 31, 20, 0, 233, 105, 42, 180, 0, 32, 182, 1, 51, 133, 97, 55, 5, 3, 54, 7, 21, 7, 42, 180, 0, 32, 182, 1]
def kCcX1_withText_1 : List Nat := [51, 162, 0, 28, 22, 5, 20, 0, 233, 105, 42, 180, 0, 32, 21, 7, 182, 1, 55, 133, 97, 55, 5, 132, 7, 1, 167, 255, 222, 22, 5, 173]
def kRcX1_withText_2 : List Nat := []
def kRcX1_withText_1 : List Nat := kCcX1_withText_1 ++ kRcX1_withText_2
def kRcX1_withText_0 : List Nat := kCcX1_withText_0 ++ kRcX1_withText_1
theorem kRcX1_withText_eq : cX1_withText.data.toList.map UInt8.toNat = kRcX1_withText_0 := by decide +kernel
theorem katcX1_withText_0 (i : Nat) : (cX1_withText.data.toList.map UInt8.toNat)[0 + i]? = kRcX1_withText_0[i]? := by rw [kRcX1_withText_eq, Nat.zero_add]
theorem katcX1_withText_1 : ∀ i : Nat, (cX1_withText.data.toList.map UInt8.toNat)[32 + i]? = kRcX1_withText_1[i]? := kstep katcX1_withText_0 (C := kCcX1_withText_0) rfl rfl
theorem kBcX1_withText_0 {b : Nat} (p : Nat) (hp : Nat.ble 0 p = true) (h : kCcX1_withText_0[p - 0]? = some b) : kb cX1_withText p b := kin katcX1_withText_0 rfl hp h
theorem kBcX1_withText_1 {b : Nat} (p : Nat) (hp : Nat.ble 32 p = true) (h : kCcX1_withText_1[p - 32]? = some b) : kb cX1_withText p b := kin katcX1_withText_1 rfl hp h
theorem dX1_withText_0 : decode cX1_withText 0 = .ok (.aload_n 0, 1) := dz_42 (kBcX1_withText_0 0 rfl rfl)
theorem dX1_withText_1 : decode cX1_withText 1 = .ok (.lload_n 3, 1) := dz_33 (kBcX1_withText_0 1 rfl rfl)
theorem dX1_withText_2 : decode cX1_withText 2 = .ok (.invokevirtual 271, 3) := dz_182 (kBcX1_withText_0 2 rfl rfl) (kBcX1_withText_0 3 rfl rfl) (kBcX1_withText_0 4 rfl rfl) rfl
theorem dX1_withText_5 : decode cX1_withText 5 = .ok (.lload_n 1, 1) := dz_31 (kBcX1_withText_0 5 rfl rfl)
theorem dX1_withText_6 : decode cX1_withText 6 = .ok (.ldc2_w 233, 3) := dz_20 (kBcX1_withText_0 6 rfl rfl) (kBcX1_withText_0 7 rfl rfl) (kBcX1_withText_0 8 rfl rfl) rfl
theorem dX1_withText_9 : decode cX1_withText 9 = .ok (.lmul, 1) := dz_105 (kBcX1_withText_0 9 rfl rfl)
theorem dX1_withText_10 : decode cX1_withText 10 = .ok (.aload_n 0, 1) := dz_42 (kBcX1_withText_0 10 rfl rfl)
theorem dX1_withText_11 : decode cX1_withText 11 = .ok (.getfield 32, 3) := dz_180 (kBcX1_withText_0 11 rfl rfl) (kBcX1_withText_0 12 rfl rfl) (kBcX1_withText_0 13 rfl rfl) rfl
theorem dX1_withText_14 : decode cX1_withText 14 = .ok (.invokevirtual 307, 3) := dz_182 (kBcX1_withText_0 14 rfl rfl) (kBcX1_withText_0 15 rfl rfl) (kBcX1_withText_0 16 rfl rfl) rfl
theorem dX1_withText_17 : decode cX1_withText 17 = .ok (.i2l, 1) := dz_133 (kBcX1_withText_0 17 rfl rfl)
theorem dX1_withText_18 : decode cX1_withText 18 = .ok (.ladd, 1) := dz_97 (kBcX1_withText_0 18 rfl rfl)
theorem dX1_withText_19 : decode cX1_withText 19 = .ok (.lstore 5, 2) := dz_55 (kBcX1_withText_0 19 rfl rfl) (kBcX1_withText_0 20 rfl rfl)
theorem dX1_withText_21 : decode cX1_withText 21 = .ok (.iconst 0, 1) := dz_3 (kBcX1_withText_0 21 rfl rfl)
theorem dX1_withText_22 : decode cX1_withText 22 = .ok (.istore 7, 2) := dz_54 (kBcX1_withText_0 22 rfl rfl) (kBcX1_withText_0 23 rfl rfl)
theorem dX1_withText_24 : decode cX1_withText 24 = .ok (.iload 7, 2) := dz_21 (kBcX1_withText_0 24 rfl rfl) (kBcX1_withText_0 25 rfl rfl)
theorem dX1_withText_26 : decode cX1_withText 26 = .ok (.aload_n 0, 1) := dz_42 (kBcX1_withText_0 26 rfl rfl)
theorem dX1_withText_27 : decode cX1_withText 27 = .ok (.getfield 32, 3) := dz_180 (kBcX1_withText_0 27 rfl rfl) (kBcX1_withText_0 28 rfl rfl) (kBcX1_withText_0 29 rfl rfl) rfl
theorem dX1_withText_30 : decode cX1_withText 30 = .ok (.invokevirtual 307, 3) := dz_182 (kBcX1_withText_0 30 rfl rfl) (kBcX1_withText_0 31 rfl rfl) (kBcX1_withText_1 32 rfl rfl) rfl
theorem dX1_withText_33 : decode cX1_withText 33 = .ok (.if_icmp .ge 28, 3) := dz_162 (kBcX1_withText_1 33 rfl rfl) (kBcX1_withText_1 34 rfl rfl) (kBcX1_withText_1 35 rfl rfl) rfl
theorem dX1_withText_36 : decode cX1_withText 36 = .ok (.lload 5, 2) := dz_22 (kBcX1_withText_1 36 rfl rfl) (kBcX1_withText_1 37 rfl rfl)
theorem dX1_withText_38 : decode cX1_withText 38 = .ok (.ldc2_w 233, 3) := dz_20 (kBcX1_withText_1 38 rfl rfl) (kBcX1_withText_1 39 rfl rfl) (kBcX1_withText_1 40 rfl rfl) rfl
theorem dX1_withText_41 : decode cX1_withText 41 = .ok (.lmul, 1) := dz_105 (kBcX1_withText_1 41 rfl rfl)
theorem dX1_withText_42 : decode cX1_withText 42 = .ok (.aload_n 0, 1) := dz_42 (kBcX1_withText_1 42 rfl rfl)
theorem dX1_withText_43 : decode cX1_withText 43 = .ok (.getfield 32, 3) := dz_180 (kBcX1_withText_1 43 rfl rfl) (kBcX1_withText_1 44 rfl rfl) (kBcX1_withText_1 45 rfl rfl) rfl
theorem dX1_withText_46 : decode cX1_withText 46 = .ok (.iload 7, 2) := dz_21 (kBcX1_withText_1 46 rfl rfl) (kBcX1_withText_1 47 rfl rfl)
theorem dX1_withText_48 : decode cX1_withText 48 = .ok (.invokevirtual 311, 3) := dz_182 (kBcX1_withText_1 48 rfl rfl) (kBcX1_withText_1 49 rfl rfl) (kBcX1_withText_1 50 rfl rfl) rfl
theorem dX1_withText_51 : decode cX1_withText 51 = .ok (.i2l, 1) := dz_133 (kBcX1_withText_1 51 rfl rfl)
theorem dX1_withText_52 : decode cX1_withText 52 = .ok (.ladd, 1) := dz_97 (kBcX1_withText_1 52 rfl rfl)
theorem dX1_withText_53 : decode cX1_withText 53 = .ok (.lstore 5, 2) := dz_55 (kBcX1_withText_1 53 rfl rfl) (kBcX1_withText_1 54 rfl rfl)
theorem dX1_withText_55 : decode cX1_withText 55 = .ok (.iinc 7 1, 3) := dz_132 (kBcX1_withText_1 55 rfl rfl) (kBcX1_withText_1 56 rfl rfl) (kBcX1_withText_1 57 rfl rfl) rfl
theorem dX1_withText_58 : decode cX1_withText 58 = .ok (.goto (-34), 3) := dz_167 (kBcX1_withText_1 58 rfl rfl) (kBcX1_withText_1 59 rfl rfl) (kBcX1_withText_1 60 rfl rfl) rfl
theorem dX1_withText_61 : decode cX1_withText 61 = .ok (.lload 5, 2) := dz_22 (kBcX1_withText_1 61 rfl rfl) (kBcX1_withText_1 62 rfl rfl)
theorem dX1_withText_63 : decode cX1_withText 63 = .ok (.lreturn, 1) := dz_173 (kBcX1_withText_1 63 rfl rfl)
def kCcX1_digestOfLeaves_0 : List Nat := [31, 66, 3, 54, 5, 21, 5, 7, 162, 0, 54, 3, 54, 6, 21, 6, 16, 7, 163, 0, 25, 33, 20, 0, 233, 105, 42, 21, 5, 21, 6, 182]
def kCcX1_digestOfLeaves_1 : List Nat := [1, 59, 133, 97, 66, 132, 6, 1, 167, 255, 230, 42, 33, 42, 180, 0, 9, 21, 5, 47, 182, 1, 62, 66, 132, 5, 1, 167, 255, 202, 33, 173]
def kRcX1_digestOfLeaves_2 : List Nat := []
def kRcX1_digestOfLeaves_1 : List Nat := kCcX1_digestOfLeaves_1 ++ kRcX1_digestOfLeaves_2
def kRcX1_digestOfLeaves_0 : List Nat := kCcX1_digestOfLeaves_0 ++ kRcX1_digestOfLeaves_1
theorem kRcX1_digestOfLeaves_eq : cX1_digestOfLeaves.data.toList.map UInt8.toNat = kRcX1_digestOfLeaves_0 := by decide +kernel
theorem katcX1_digestOfLeaves_0 (i : Nat) : (cX1_digestOfLeaves.data.toList.map UInt8.toNat)[0 + i]? = kRcX1_digestOfLeaves_0[i]? := by rw [kRcX1_digestOfLeaves_eq, Nat.zero_add]
theorem katcX1_digestOfLeaves_1 : ∀ i : Nat, (cX1_digestOfLeaves.data.toList.map UInt8.toNat)[32 + i]? = kRcX1_digestOfLeaves_1[i]? := kstep katcX1_digestOfLeaves_0 (C := kCcX1_digestOfLeaves_0) rfl rfl
theorem kBcX1_digestOfLeaves_0 {b : Nat} (p : Nat) (hp : Nat.ble 0 p = true) (h : kCcX1_digestOfLeaves_0[p - 0]? = some b) : kb cX1_digestOfLeaves p b := kin katcX1_digestOfLeaves_0 rfl hp h
theorem kBcX1_digestOfLeaves_1 {b : Nat} (p : Nat) (hp : Nat.ble 32 p = true) (h : kCcX1_digestOfLeaves_1[p - 32]? = some b) : kb cX1_digestOfLeaves p b := kin katcX1_digestOfLeaves_1 rfl hp h
theorem dX1_digestOfLeaves_0 : decode cX1_digestOfLeaves 0 = .ok (.lload_n 1, 1) := dz_31 (kBcX1_digestOfLeaves_0 0 rfl rfl)
theorem dX1_digestOfLeaves_1 : decode cX1_digestOfLeaves 1 = .ok (.lstore_n 3, 1) := dz_66 (kBcX1_digestOfLeaves_0 1 rfl rfl)
theorem dX1_digestOfLeaves_2 : decode cX1_digestOfLeaves 2 = .ok (.iconst 0, 1) := dz_3 (kBcX1_digestOfLeaves_0 2 rfl rfl)
theorem dX1_digestOfLeaves_3 : decode cX1_digestOfLeaves 3 = .ok (.istore 5, 2) := dz_54 (kBcX1_digestOfLeaves_0 3 rfl rfl) (kBcX1_digestOfLeaves_0 4 rfl rfl)
theorem dX1_digestOfLeaves_5 : decode cX1_digestOfLeaves 5 = .ok (.iload 5, 2) := dz_21 (kBcX1_digestOfLeaves_0 5 rfl rfl) (kBcX1_digestOfLeaves_0 6 rfl rfl)
theorem dX1_digestOfLeaves_7 : decode cX1_digestOfLeaves 7 = .ok (.iconst 4, 1) := dz_7 (kBcX1_digestOfLeaves_0 7 rfl rfl)
theorem dX1_digestOfLeaves_8 : decode cX1_digestOfLeaves 8 = .ok (.if_icmp .ge 54, 3) := dz_162 (kBcX1_digestOfLeaves_0 8 rfl rfl) (kBcX1_digestOfLeaves_0 9 rfl rfl) (kBcX1_digestOfLeaves_0 10 rfl rfl) rfl
theorem dX1_digestOfLeaves_11 : decode cX1_digestOfLeaves 11 = .ok (.iconst 0, 1) := dz_3 (kBcX1_digestOfLeaves_0 11 rfl rfl)
theorem dX1_digestOfLeaves_12 : decode cX1_digestOfLeaves 12 = .ok (.istore 6, 2) := dz_54 (kBcX1_digestOfLeaves_0 12 rfl rfl) (kBcX1_digestOfLeaves_0 13 rfl rfl)
theorem dX1_digestOfLeaves_14 : decode cX1_digestOfLeaves 14 = .ok (.iload 6, 2) := dz_21 (kBcX1_digestOfLeaves_0 14 rfl rfl) (kBcX1_digestOfLeaves_0 15 rfl rfl)
theorem dX1_digestOfLeaves_16 : decode cX1_digestOfLeaves 16 = .ok (.bipush 7, 2) := dz_16 (kBcX1_digestOfLeaves_0 16 rfl rfl) (kBcX1_digestOfLeaves_0 17 rfl rfl) rfl
theorem dX1_digestOfLeaves_18 : decode cX1_digestOfLeaves 18 = .ok (.if_icmp .gt 25, 3) := dz_163 (kBcX1_digestOfLeaves_0 18 rfl rfl) (kBcX1_digestOfLeaves_0 19 rfl rfl) (kBcX1_digestOfLeaves_0 20 rfl rfl) rfl
theorem dX1_digestOfLeaves_21 : decode cX1_digestOfLeaves 21 = .ok (.lload_n 3, 1) := dz_33 (kBcX1_digestOfLeaves_0 21 rfl rfl)
theorem dX1_digestOfLeaves_22 : decode cX1_digestOfLeaves 22 = .ok (.ldc2_w 233, 3) := dz_20 (kBcX1_digestOfLeaves_0 22 rfl rfl) (kBcX1_digestOfLeaves_0 23 rfl rfl) (kBcX1_digestOfLeaves_0 24 rfl rfl) rfl
theorem dX1_digestOfLeaves_25 : decode cX1_digestOfLeaves 25 = .ok (.lmul, 1) := dz_105 (kBcX1_digestOfLeaves_0 25 rfl rfl)
theorem dX1_digestOfLeaves_26 : decode cX1_digestOfLeaves 26 = .ok (.aload_n 0, 1) := dz_42 (kBcX1_digestOfLeaves_0 26 rfl rfl)
theorem dX1_digestOfLeaves_27 : decode cX1_digestOfLeaves 27 = .ok (.iload 5, 2) := dz_21 (kBcX1_digestOfLeaves_0 27 rfl rfl) (kBcX1_digestOfLeaves_0 28 rfl rfl)
theorem dX1_digestOfLeaves_29 : decode cX1_digestOfLeaves 29 = .ok (.iload 6, 2) := dz_21 (kBcX1_digestOfLeaves_0 29 rfl rfl) (kBcX1_digestOfLeaves_0 30 rfl rfl)
theorem dX1_digestOfLeaves_31 : decode cX1_digestOfLeaves 31 = .ok (.invokevirtual 315, 3) := dz_182 (kBcX1_digestOfLeaves_0 31 rfl rfl) (kBcX1_digestOfLeaves_1 32 rfl rfl) (kBcX1_digestOfLeaves_1 33 rfl rfl) rfl
theorem dX1_digestOfLeaves_34 : decode cX1_digestOfLeaves 34 = .ok (.i2l, 1) := dz_133 (kBcX1_digestOfLeaves_1 34 rfl rfl)
theorem dX1_digestOfLeaves_35 : decode cX1_digestOfLeaves 35 = .ok (.ladd, 1) := dz_97 (kBcX1_digestOfLeaves_1 35 rfl rfl)
theorem dX1_digestOfLeaves_36 : decode cX1_digestOfLeaves 36 = .ok (.lstore_n 3, 1) := dz_66 (kBcX1_digestOfLeaves_1 36 rfl rfl)
theorem dX1_digestOfLeaves_37 : decode cX1_digestOfLeaves 37 = .ok (.iinc 6 1, 3) := dz_132 (kBcX1_digestOfLeaves_1 37 rfl rfl) (kBcX1_digestOfLeaves_1 38 rfl rfl) (kBcX1_digestOfLeaves_1 39 rfl rfl) rfl
theorem dX1_digestOfLeaves_40 : decode cX1_digestOfLeaves 40 = .ok (.goto (-26), 3) := dz_167 (kBcX1_digestOfLeaves_1 40 rfl rfl) (kBcX1_digestOfLeaves_1 41 rfl rfl) (kBcX1_digestOfLeaves_1 42 rfl rfl) rfl
theorem dX1_digestOfLeaves_43 : decode cX1_digestOfLeaves 43 = .ok (.aload_n 0, 1) := dz_42 (kBcX1_digestOfLeaves_1 43 rfl rfl)
theorem dX1_digestOfLeaves_44 : decode cX1_digestOfLeaves 44 = .ok (.lload_n 3, 1) := dz_33 (kBcX1_digestOfLeaves_1 44 rfl rfl)
theorem dX1_digestOfLeaves_45 : decode cX1_digestOfLeaves 45 = .ok (.aload_n 0, 1) := dz_42 (kBcX1_digestOfLeaves_1 45 rfl rfl)
theorem dX1_digestOfLeaves_46 : decode cX1_digestOfLeaves 46 = .ok (.getfield 9, 3) := dz_180 (kBcX1_digestOfLeaves_1 46 rfl rfl) (kBcX1_digestOfLeaves_1 47 rfl rfl) (kBcX1_digestOfLeaves_1 48 rfl rfl) rfl
theorem dX1_digestOfLeaves_49 : decode cX1_digestOfLeaves 49 = .ok (.iload 5, 2) := dz_21 (kBcX1_digestOfLeaves_1 49 rfl rfl) (kBcX1_digestOfLeaves_1 50 rfl rfl)
theorem dX1_digestOfLeaves_51 : decode cX1_digestOfLeaves 51 = .ok (.laload, 1) := dz_47 (kBcX1_digestOfLeaves_1 51 rfl rfl)
theorem dX1_digestOfLeaves_52 : decode cX1_digestOfLeaves 52 = .ok (.invokevirtual 318, 3) := dz_182 (kBcX1_digestOfLeaves_1 52 rfl rfl) (kBcX1_digestOfLeaves_1 53 rfl rfl) (kBcX1_digestOfLeaves_1 54 rfl rfl) rfl
theorem dX1_digestOfLeaves_55 : decode cX1_digestOfLeaves 55 = .ok (.lstore_n 3, 1) := dz_66 (kBcX1_digestOfLeaves_1 55 rfl rfl)
theorem dX1_digestOfLeaves_56 : decode cX1_digestOfLeaves 56 = .ok (.iinc 5 1, 3) := dz_132 (kBcX1_digestOfLeaves_1 56 rfl rfl) (kBcX1_digestOfLeaves_1 57 rfl rfl) (kBcX1_digestOfLeaves_1 58 rfl rfl) rfl
theorem dX1_digestOfLeaves_59 : decode cX1_digestOfLeaves 59 = .ok (.goto (-54), 3) := dz_167 (kBcX1_digestOfLeaves_1 59 rfl rfl) (kBcX1_digestOfLeaves_1 60 rfl rfl) (kBcX1_digestOfLeaves_1 61 rfl rfl) rfl
theorem dX1_digestOfLeaves_62 : decode cX1_digestOfLeaves 62 = .ok (.lload_n 3, 1) := dz_33 (kBcX1_digestOfLeaves_1 62 rfl rfl)
theorem dX1_digestOfLeaves_63 : decode cX1_digestOfLeaves 63 = .ok (.lreturn, 1) := dz_173 (kBcX1_digestOfLeaves_1 63 rfl rfl)
def kCcX1_digestOfYears_0 : List Nat := [31, 66, 3, 54, 5, 21, 5, 7, 162, 0, 40, 3, 54, 6, 21, 6, 7, 163, 0, 25, 33, 20, 0, 233, 105, 42, 21, 5, 21, 6, 182, 1]
def kCcX1_digestOfYears_1 : List Nat := [66, 133, 97, 66, 132, 6, 1, 167, 255, 231, 132, 5, 1, 167, 255, 216, 33, 173]
def kRcX1_digestOfYears_2 : List Nat := []
def kRcX1_digestOfYears_1 : List Nat := kCcX1_digestOfYears_1 ++ kRcX1_digestOfYears_2
def kRcX1_digestOfYears_0 : List Nat := kCcX1_digestOfYears_0 ++ kRcX1_digestOfYears_1
theorem kRcX1_digestOfYears_eq : cX1_digestOfYears.data.toList.map UInt8.toNat = kRcX1_digestOfYears_0 := by decide +kernel
theorem katcX1_digestOfYears_0 (i : Nat) : (cX1_digestOfYears.data.toList.map UInt8.toNat)[0 + i]? = kRcX1_digestOfYears_0[i]? := by rw [kRcX1_digestOfYears_eq, Nat.zero_add]
theorem katcX1_digestOfYears_1 : ∀ i : Nat, (cX1_digestOfYears.data.toList.map UInt8.toNat)[32 + i]? = kRcX1_digestOfYears_1[i]? := kstep katcX1_digestOfYears_0 (C := kCcX1_digestOfYears_0) rfl rfl
theorem kBcX1_digestOfYears_0 {b : Nat} (p : Nat) (hp : Nat.ble 0 p = true) (h : kCcX1_digestOfYears_0[p - 0]? = some b) : kb cX1_digestOfYears p b := kin katcX1_digestOfYears_0 rfl hp h
theorem kBcX1_digestOfYears_1 {b : Nat} (p : Nat) (hp : Nat.ble 32 p = true) (h : kCcX1_digestOfYears_1[p - 32]? = some b) : kb cX1_digestOfYears p b := kin katcX1_digestOfYears_1 rfl hp h
theorem dX1_digestOfYears_0 : decode cX1_digestOfYears 0 = .ok (.lload_n 1, 1) := dz_31 (kBcX1_digestOfYears_0 0 rfl rfl)
theorem dX1_digestOfYears_1 : decode cX1_digestOfYears 1 = .ok (.lstore_n 3, 1) := dz_66 (kBcX1_digestOfYears_0 1 rfl rfl)
theorem dX1_digestOfYears_2 : decode cX1_digestOfYears 2 = .ok (.iconst 0, 1) := dz_3 (kBcX1_digestOfYears_0 2 rfl rfl)
theorem dX1_digestOfYears_3 : decode cX1_digestOfYears 3 = .ok (.istore 5, 2) := dz_54 (kBcX1_digestOfYears_0 3 rfl rfl) (kBcX1_digestOfYears_0 4 rfl rfl)
theorem dX1_digestOfYears_5 : decode cX1_digestOfYears 5 = .ok (.iload 5, 2) := dz_21 (kBcX1_digestOfYears_0 5 rfl rfl) (kBcX1_digestOfYears_0 6 rfl rfl)
theorem dX1_digestOfYears_7 : decode cX1_digestOfYears 7 = .ok (.iconst 4, 1) := dz_7 (kBcX1_digestOfYears_0 7 rfl rfl)
theorem dX1_digestOfYears_8 : decode cX1_digestOfYears 8 = .ok (.if_icmp .ge 40, 3) := dz_162 (kBcX1_digestOfYears_0 8 rfl rfl) (kBcX1_digestOfYears_0 9 rfl rfl) (kBcX1_digestOfYears_0 10 rfl rfl) rfl
theorem dX1_digestOfYears_11 : decode cX1_digestOfYears 11 = .ok (.iconst 0, 1) := dz_3 (kBcX1_digestOfYears_0 11 rfl rfl)
theorem dX1_digestOfYears_12 : decode cX1_digestOfYears 12 = .ok (.istore 6, 2) := dz_54 (kBcX1_digestOfYears_0 12 rfl rfl) (kBcX1_digestOfYears_0 13 rfl rfl)
theorem dX1_digestOfYears_14 : decode cX1_digestOfYears 14 = .ok (.iload 6, 2) := dz_21 (kBcX1_digestOfYears_0 14 rfl rfl) (kBcX1_digestOfYears_0 15 rfl rfl)
theorem dX1_digestOfYears_16 : decode cX1_digestOfYears 16 = .ok (.iconst 4, 1) := dz_7 (kBcX1_digestOfYears_0 16 rfl rfl)
theorem dX1_digestOfYears_17 : decode cX1_digestOfYears 17 = .ok (.if_icmp .gt 25, 3) := dz_163 (kBcX1_digestOfYears_0 17 rfl rfl) (kBcX1_digestOfYears_0 18 rfl rfl) (kBcX1_digestOfYears_0 19 rfl rfl) rfl
theorem dX1_digestOfYears_20 : decode cX1_digestOfYears 20 = .ok (.lload_n 3, 1) := dz_33 (kBcX1_digestOfYears_0 20 rfl rfl)
theorem dX1_digestOfYears_21 : decode cX1_digestOfYears 21 = .ok (.ldc2_w 233, 3) := dz_20 (kBcX1_digestOfYears_0 21 rfl rfl) (kBcX1_digestOfYears_0 22 rfl rfl) (kBcX1_digestOfYears_0 23 rfl rfl) rfl
theorem dX1_digestOfYears_24 : decode cX1_digestOfYears 24 = .ok (.lmul, 1) := dz_105 (kBcX1_digestOfYears_0 24 rfl rfl)
theorem dX1_digestOfYears_25 : decode cX1_digestOfYears 25 = .ok (.aload_n 0, 1) := dz_42 (kBcX1_digestOfYears_0 25 rfl rfl)
theorem dX1_digestOfYears_26 : decode cX1_digestOfYears 26 = .ok (.iload 5, 2) := dz_21 (kBcX1_digestOfYears_0 26 rfl rfl) (kBcX1_digestOfYears_0 27 rfl rfl)
theorem dX1_digestOfYears_28 : decode cX1_digestOfYears 28 = .ok (.iload 6, 2) := dz_21 (kBcX1_digestOfYears_0 28 rfl rfl) (kBcX1_digestOfYears_0 29 rfl rfl)
theorem dX1_digestOfYears_30 : decode cX1_digestOfYears 30 = .ok (.invokevirtual 322, 3) := dz_182 (kBcX1_digestOfYears_0 30 rfl rfl) (kBcX1_digestOfYears_0 31 rfl rfl) (kBcX1_digestOfYears_1 32 rfl rfl) rfl
theorem dX1_digestOfYears_33 : decode cX1_digestOfYears 33 = .ok (.i2l, 1) := dz_133 (kBcX1_digestOfYears_1 33 rfl rfl)
theorem dX1_digestOfYears_34 : decode cX1_digestOfYears 34 = .ok (.ladd, 1) := dz_97 (kBcX1_digestOfYears_1 34 rfl rfl)
theorem dX1_digestOfYears_35 : decode cX1_digestOfYears 35 = .ok (.lstore_n 3, 1) := dz_66 (kBcX1_digestOfYears_1 35 rfl rfl)
theorem dX1_digestOfYears_36 : decode cX1_digestOfYears 36 = .ok (.iinc 6 1, 3) := dz_132 (kBcX1_digestOfYears_1 36 rfl rfl) (kBcX1_digestOfYears_1 37 rfl rfl) (kBcX1_digestOfYears_1 38 rfl rfl) rfl
theorem dX1_digestOfYears_39 : decode cX1_digestOfYears 39 = .ok (.goto (-25), 3) := dz_167 (kBcX1_digestOfYears_1 39 rfl rfl) (kBcX1_digestOfYears_1 40 rfl rfl) (kBcX1_digestOfYears_1 41 rfl rfl) rfl
theorem dX1_digestOfYears_42 : decode cX1_digestOfYears 42 = .ok (.iinc 5 1, 3) := dz_132 (kBcX1_digestOfYears_1 42 rfl rfl) (kBcX1_digestOfYears_1 43 rfl rfl) (kBcX1_digestOfYears_1 44 rfl rfl) rfl
theorem dX1_digestOfYears_45 : decode cX1_digestOfYears 45 = .ok (.goto (-40), 3) := dz_167 (kBcX1_digestOfYears_1 45 rfl rfl) (kBcX1_digestOfYears_1 46 rfl rfl) (kBcX1_digestOfYears_1 47 rfl rfl) rfl
theorem dX1_digestOfYears_48 : decode cX1_digestOfYears 48 = .ok (.lload_n 3, 1) := dz_33 (kBcX1_digestOfYears_1 48 rfl rfl)
theorem dX1_digestOfYears_49 : decode cX1_digestOfYears 49 = .ok (.lreturn, 1) := dz_173 (kBcX1_digestOfYears_1 49 rfl rfl)
def kCcX1_digestOfFeasts_0 : List Nat := [31, 66, 3, 54, 5, 21, 5, 7, 162, 0, 40, 3, 54, 6, 21, 6, 7, 163, 0, 25, 33, 20, 0, 233, 105, 42, 21, 5, 21, 6, 182, 1]
def kCcX1_digestOfFeasts_1 : List Nat := [69, 133, 97, 66, 132, 6, 1, 167, 255, 231, 132, 5, 1, 167, 255, 216, 33, 173]
def kRcX1_digestOfFeasts_2 : List Nat := []
def kRcX1_digestOfFeasts_1 : List Nat := kCcX1_digestOfFeasts_1 ++ kRcX1_digestOfFeasts_2
def kRcX1_digestOfFeasts_0 : List Nat := kCcX1_digestOfFeasts_0 ++ kRcX1_digestOfFeasts_1
theorem kRcX1_digestOfFeasts_eq : cX1_digestOfFeasts.data.toList.map UInt8.toNat = kRcX1_digestOfFeasts_0 := by decide +kernel
theorem katcX1_digestOfFeasts_0 (i : Nat) : (cX1_digestOfFeasts.data.toList.map UInt8.toNat)[0 + i]? = kRcX1_digestOfFeasts_0[i]? := by rw [kRcX1_digestOfFeasts_eq, Nat.zero_add]
theorem katcX1_digestOfFeasts_1 : ∀ i : Nat, (cX1_digestOfFeasts.data.toList.map UInt8.toNat)[32 + i]? = kRcX1_digestOfFeasts_1[i]? := kstep katcX1_digestOfFeasts_0 (C := kCcX1_digestOfFeasts_0) rfl rfl
theorem kBcX1_digestOfFeasts_0 {b : Nat} (p : Nat) (hp : Nat.ble 0 p = true) (h : kCcX1_digestOfFeasts_0[p - 0]? = some b) : kb cX1_digestOfFeasts p b := kin katcX1_digestOfFeasts_0 rfl hp h
theorem kBcX1_digestOfFeasts_1 {b : Nat} (p : Nat) (hp : Nat.ble 32 p = true) (h : kCcX1_digestOfFeasts_1[p - 32]? = some b) : kb cX1_digestOfFeasts p b := kin katcX1_digestOfFeasts_1 rfl hp h
theorem dX1_digestOfFeasts_0 : decode cX1_digestOfFeasts 0 = .ok (.lload_n 1, 1) := dz_31 (kBcX1_digestOfFeasts_0 0 rfl rfl)
theorem dX1_digestOfFeasts_1 : decode cX1_digestOfFeasts 1 = .ok (.lstore_n 3, 1) := dz_66 (kBcX1_digestOfFeasts_0 1 rfl rfl)
theorem dX1_digestOfFeasts_2 : decode cX1_digestOfFeasts 2 = .ok (.iconst 0, 1) := dz_3 (kBcX1_digestOfFeasts_0 2 rfl rfl)
theorem dX1_digestOfFeasts_3 : decode cX1_digestOfFeasts 3 = .ok (.istore 5, 2) := dz_54 (kBcX1_digestOfFeasts_0 3 rfl rfl) (kBcX1_digestOfFeasts_0 4 rfl rfl)
theorem dX1_digestOfFeasts_5 : decode cX1_digestOfFeasts 5 = .ok (.iload 5, 2) := dz_21 (kBcX1_digestOfFeasts_0 5 rfl rfl) (kBcX1_digestOfFeasts_0 6 rfl rfl)
theorem dX1_digestOfFeasts_7 : decode cX1_digestOfFeasts 7 = .ok (.iconst 4, 1) := dz_7 (kBcX1_digestOfFeasts_0 7 rfl rfl)
theorem dX1_digestOfFeasts_8 : decode cX1_digestOfFeasts 8 = .ok (.if_icmp .ge 40, 3) := dz_162 (kBcX1_digestOfFeasts_0 8 rfl rfl) (kBcX1_digestOfFeasts_0 9 rfl rfl) (kBcX1_digestOfFeasts_0 10 rfl rfl) rfl
theorem dX1_digestOfFeasts_11 : decode cX1_digestOfFeasts 11 = .ok (.iconst 0, 1) := dz_3 (kBcX1_digestOfFeasts_0 11 rfl rfl)
theorem dX1_digestOfFeasts_12 : decode cX1_digestOfFeasts 12 = .ok (.istore 6, 2) := dz_54 (kBcX1_digestOfFeasts_0 12 rfl rfl) (kBcX1_digestOfFeasts_0 13 rfl rfl)
theorem dX1_digestOfFeasts_14 : decode cX1_digestOfFeasts 14 = .ok (.iload 6, 2) := dz_21 (kBcX1_digestOfFeasts_0 14 rfl rfl) (kBcX1_digestOfFeasts_0 15 rfl rfl)
theorem dX1_digestOfFeasts_16 : decode cX1_digestOfFeasts 16 = .ok (.iconst 4, 1) := dz_7 (kBcX1_digestOfFeasts_0 16 rfl rfl)
theorem dX1_digestOfFeasts_17 : decode cX1_digestOfFeasts 17 = .ok (.if_icmp .gt 25, 3) := dz_163 (kBcX1_digestOfFeasts_0 17 rfl rfl) (kBcX1_digestOfFeasts_0 18 rfl rfl) (kBcX1_digestOfFeasts_0 19 rfl rfl) rfl
theorem dX1_digestOfFeasts_20 : decode cX1_digestOfFeasts 20 = .ok (.lload_n 3, 1) := dz_33 (kBcX1_digestOfFeasts_0 20 rfl rfl)
theorem dX1_digestOfFeasts_21 : decode cX1_digestOfFeasts 21 = .ok (.ldc2_w 233, 3) := dz_20 (kBcX1_digestOfFeasts_0 21 rfl rfl) (kBcX1_digestOfFeasts_0 22 rfl rfl) (kBcX1_digestOfFeasts_0 23 rfl rfl) rfl
theorem dX1_digestOfFeasts_24 : decode cX1_digestOfFeasts 24 = .ok (.lmul, 1) := dz_105 (kBcX1_digestOfFeasts_0 24 rfl rfl)
theorem dX1_digestOfFeasts_25 : decode cX1_digestOfFeasts 25 = .ok (.aload_n 0, 1) := dz_42 (kBcX1_digestOfFeasts_0 25 rfl rfl)
theorem dX1_digestOfFeasts_26 : decode cX1_digestOfFeasts 26 = .ok (.iload 5, 2) := dz_21 (kBcX1_digestOfFeasts_0 26 rfl rfl) (kBcX1_digestOfFeasts_0 27 rfl rfl)
theorem dX1_digestOfFeasts_28 : decode cX1_digestOfFeasts 28 = .ok (.iload 6, 2) := dz_21 (kBcX1_digestOfFeasts_0 28 rfl rfl) (kBcX1_digestOfFeasts_0 29 rfl rfl)
theorem dX1_digestOfFeasts_30 : decode cX1_digestOfFeasts 30 = .ok (.invokevirtual 325, 3) := dz_182 (kBcX1_digestOfFeasts_0 30 rfl rfl) (kBcX1_digestOfFeasts_0 31 rfl rfl) (kBcX1_digestOfFeasts_1 32 rfl rfl) rfl
theorem dX1_digestOfFeasts_33 : decode cX1_digestOfFeasts 33 = .ok (.i2l, 1) := dz_133 (kBcX1_digestOfFeasts_1 33 rfl rfl)
theorem dX1_digestOfFeasts_34 : decode cX1_digestOfFeasts 34 = .ok (.ladd, 1) := dz_97 (kBcX1_digestOfFeasts_1 34 rfl rfl)
theorem dX1_digestOfFeasts_35 : decode cX1_digestOfFeasts 35 = .ok (.lstore_n 3, 1) := dz_66 (kBcX1_digestOfFeasts_1 35 rfl rfl)
theorem dX1_digestOfFeasts_36 : decode cX1_digestOfFeasts 36 = .ok (.iinc 6 1, 3) := dz_132 (kBcX1_digestOfFeasts_1 36 rfl rfl) (kBcX1_digestOfFeasts_1 37 rfl rfl) (kBcX1_digestOfFeasts_1 38 rfl rfl) rfl
theorem dX1_digestOfFeasts_39 : decode cX1_digestOfFeasts 39 = .ok (.goto (-25), 3) := dz_167 (kBcX1_digestOfFeasts_1 39 rfl rfl) (kBcX1_digestOfFeasts_1 40 rfl rfl) (kBcX1_digestOfFeasts_1 41 rfl rfl) rfl
theorem dX1_digestOfFeasts_42 : decode cX1_digestOfFeasts 42 = .ok (.iinc 5 1, 3) := dz_132 (kBcX1_digestOfFeasts_1 42 rfl rfl) (kBcX1_digestOfFeasts_1 43 rfl rfl) (kBcX1_digestOfFeasts_1 44 rfl rfl) rfl
theorem dX1_digestOfFeasts_45 : decode cX1_digestOfFeasts 45 = .ok (.goto (-40), 3) := dz_167 (kBcX1_digestOfFeasts_1 45 rfl rfl) (kBcX1_digestOfFeasts_1 46 rfl rfl) (kBcX1_digestOfFeasts_1 47 rfl rfl) rfl
theorem dX1_digestOfFeasts_48 : decode cX1_digestOfFeasts 48 = .ok (.lload_n 3, 1) := dz_33 (kBcX1_digestOfFeasts_1 48 rfl rfl)
theorem dX1_digestOfFeasts_49 : decode cX1_digestOfFeasts 49 = .ok (.lreturn, 1) := dz_173 (kBcX1_digestOfFeasts_1 49 rfl rfl)
def kCcX1_digestOfDays_0 : List Nat := [31, 66, 3, 54, 5, 21, 5, 7, 162, 0, 52, 3, 54, 6, 21, 6, 8, 163, 0, 25, 33, 20, 0, 233, 105, 42, 21, 5, 21, 6, 182, 1]
def kCcX1_digestOfDays_1 : List Nat := [72, 133, 97, 66, 132, 6, 1, 167, 255, 231, 42, 33, 42, 21, 5, 182, 0, 191, 182, 1, 62, 66, 132, 5, 1, 167, 255, 204, 33, 173]
def kRcX1_digestOfDays_2 : List Nat := []
def kRcX1_digestOfDays_1 : List Nat := kCcX1_digestOfDays_1 ++ kRcX1_digestOfDays_2
def kRcX1_digestOfDays_0 : List Nat := kCcX1_digestOfDays_0 ++ kRcX1_digestOfDays_1
theorem kRcX1_digestOfDays_eq : cX1_digestOfDays.data.toList.map UInt8.toNat = kRcX1_digestOfDays_0 := by decide +kernel
theorem katcX1_digestOfDays_0 (i : Nat) : (cX1_digestOfDays.data.toList.map UInt8.toNat)[0 + i]? = kRcX1_digestOfDays_0[i]? := by rw [kRcX1_digestOfDays_eq, Nat.zero_add]
theorem katcX1_digestOfDays_1 : ∀ i : Nat, (cX1_digestOfDays.data.toList.map UInt8.toNat)[32 + i]? = kRcX1_digestOfDays_1[i]? := kstep katcX1_digestOfDays_0 (C := kCcX1_digestOfDays_0) rfl rfl
theorem kBcX1_digestOfDays_0 {b : Nat} (p : Nat) (hp : Nat.ble 0 p = true) (h : kCcX1_digestOfDays_0[p - 0]? = some b) : kb cX1_digestOfDays p b := kin katcX1_digestOfDays_0 rfl hp h
theorem kBcX1_digestOfDays_1 {b : Nat} (p : Nat) (hp : Nat.ble 32 p = true) (h : kCcX1_digestOfDays_1[p - 32]? = some b) : kb cX1_digestOfDays p b := kin katcX1_digestOfDays_1 rfl hp h
theorem dX1_digestOfDays_0 : decode cX1_digestOfDays 0 = .ok (.lload_n 1, 1) := dz_31 (kBcX1_digestOfDays_0 0 rfl rfl)
theorem dX1_digestOfDays_1 : decode cX1_digestOfDays 1 = .ok (.lstore_n 3, 1) := dz_66 (kBcX1_digestOfDays_0 1 rfl rfl)
theorem dX1_digestOfDays_2 : decode cX1_digestOfDays 2 = .ok (.iconst 0, 1) := dz_3 (kBcX1_digestOfDays_0 2 rfl rfl)
theorem dX1_digestOfDays_3 : decode cX1_digestOfDays 3 = .ok (.istore 5, 2) := dz_54 (kBcX1_digestOfDays_0 3 rfl rfl) (kBcX1_digestOfDays_0 4 rfl rfl)
theorem dX1_digestOfDays_5 : decode cX1_digestOfDays 5 = .ok (.iload 5, 2) := dz_21 (kBcX1_digestOfDays_0 5 rfl rfl) (kBcX1_digestOfDays_0 6 rfl rfl)
theorem dX1_digestOfDays_7 : decode cX1_digestOfDays 7 = .ok (.iconst 4, 1) := dz_7 (kBcX1_digestOfDays_0 7 rfl rfl)
theorem dX1_digestOfDays_8 : decode cX1_digestOfDays 8 = .ok (.if_icmp .ge 52, 3) := dz_162 (kBcX1_digestOfDays_0 8 rfl rfl) (kBcX1_digestOfDays_0 9 rfl rfl) (kBcX1_digestOfDays_0 10 rfl rfl) rfl
theorem dX1_digestOfDays_11 : decode cX1_digestOfDays 11 = .ok (.iconst 0, 1) := dz_3 (kBcX1_digestOfDays_0 11 rfl rfl)
theorem dX1_digestOfDays_12 : decode cX1_digestOfDays 12 = .ok (.istore 6, 2) := dz_54 (kBcX1_digestOfDays_0 12 rfl rfl) (kBcX1_digestOfDays_0 13 rfl rfl)
theorem dX1_digestOfDays_14 : decode cX1_digestOfDays 14 = .ok (.iload 6, 2) := dz_21 (kBcX1_digestOfDays_0 14 rfl rfl) (kBcX1_digestOfDays_0 15 rfl rfl)
theorem dX1_digestOfDays_16 : decode cX1_digestOfDays 16 = .ok (.iconst 5, 1) := dz_8 (kBcX1_digestOfDays_0 16 rfl rfl)
theorem dX1_digestOfDays_17 : decode cX1_digestOfDays 17 = .ok (.if_icmp .gt 25, 3) := dz_163 (kBcX1_digestOfDays_0 17 rfl rfl) (kBcX1_digestOfDays_0 18 rfl rfl) (kBcX1_digestOfDays_0 19 rfl rfl) rfl
theorem dX1_digestOfDays_20 : decode cX1_digestOfDays 20 = .ok (.lload_n 3, 1) := dz_33 (kBcX1_digestOfDays_0 20 rfl rfl)
theorem dX1_digestOfDays_21 : decode cX1_digestOfDays 21 = .ok (.ldc2_w 233, 3) := dz_20 (kBcX1_digestOfDays_0 21 rfl rfl) (kBcX1_digestOfDays_0 22 rfl rfl) (kBcX1_digestOfDays_0 23 rfl rfl) rfl
theorem dX1_digestOfDays_24 : decode cX1_digestOfDays 24 = .ok (.lmul, 1) := dz_105 (kBcX1_digestOfDays_0 24 rfl rfl)
theorem dX1_digestOfDays_25 : decode cX1_digestOfDays 25 = .ok (.aload_n 0, 1) := dz_42 (kBcX1_digestOfDays_0 25 rfl rfl)
theorem dX1_digestOfDays_26 : decode cX1_digestOfDays 26 = .ok (.iload 5, 2) := dz_21 (kBcX1_digestOfDays_0 26 rfl rfl) (kBcX1_digestOfDays_0 27 rfl rfl)
theorem dX1_digestOfDays_28 : decode cX1_digestOfDays 28 = .ok (.iload 6, 2) := dz_21 (kBcX1_digestOfDays_0 28 rfl rfl) (kBcX1_digestOfDays_0 29 rfl rfl)
theorem dX1_digestOfDays_30 : decode cX1_digestOfDays 30 = .ok (.invokevirtual 328, 3) := dz_182 (kBcX1_digestOfDays_0 30 rfl rfl) (kBcX1_digestOfDays_0 31 rfl rfl) (kBcX1_digestOfDays_1 32 rfl rfl) rfl
theorem dX1_digestOfDays_33 : decode cX1_digestOfDays 33 = .ok (.i2l, 1) := dz_133 (kBcX1_digestOfDays_1 33 rfl rfl)
theorem dX1_digestOfDays_34 : decode cX1_digestOfDays 34 = .ok (.ladd, 1) := dz_97 (kBcX1_digestOfDays_1 34 rfl rfl)
theorem dX1_digestOfDays_35 : decode cX1_digestOfDays 35 = .ok (.lstore_n 3, 1) := dz_66 (kBcX1_digestOfDays_1 35 rfl rfl)
theorem dX1_digestOfDays_36 : decode cX1_digestOfDays 36 = .ok (.iinc 6 1, 3) := dz_132 (kBcX1_digestOfDays_1 36 rfl rfl) (kBcX1_digestOfDays_1 37 rfl rfl) (kBcX1_digestOfDays_1 38 rfl rfl) rfl
theorem dX1_digestOfDays_39 : decode cX1_digestOfDays 39 = .ok (.goto (-25), 3) := dz_167 (kBcX1_digestOfDays_1 39 rfl rfl) (kBcX1_digestOfDays_1 40 rfl rfl) (kBcX1_digestOfDays_1 41 rfl rfl) rfl
theorem dX1_digestOfDays_42 : decode cX1_digestOfDays 42 = .ok (.aload_n 0, 1) := dz_42 (kBcX1_digestOfDays_1 42 rfl rfl)
theorem dX1_digestOfDays_43 : decode cX1_digestOfDays 43 = .ok (.lload_n 3, 1) := dz_33 (kBcX1_digestOfDays_1 43 rfl rfl)
theorem dX1_digestOfDays_44 : decode cX1_digestOfDays 44 = .ok (.aload_n 0, 1) := dz_42 (kBcX1_digestOfDays_1 44 rfl rfl)
theorem dX1_digestOfDays_45 : decode cX1_digestOfDays 45 = .ok (.iload 5, 2) := dz_21 (kBcX1_digestOfDays_1 45 rfl rfl) (kBcX1_digestOfDays_1 46 rfl rfl)
theorem dX1_digestOfDays_47 : decode cX1_digestOfDays 47 = .ok (.invokevirtual 191, 3) := dz_182 (kBcX1_digestOfDays_1 47 rfl rfl) (kBcX1_digestOfDays_1 48 rfl rfl) (kBcX1_digestOfDays_1 49 rfl rfl) rfl
theorem dX1_digestOfDays_50 : decode cX1_digestOfDays 50 = .ok (.invokevirtual 318, 3) := dz_182 (kBcX1_digestOfDays_1 50 rfl rfl) (kBcX1_digestOfDays_1 51 rfl rfl) (kBcX1_digestOfDays_1 52 rfl rfl) rfl
theorem dX1_digestOfDays_53 : decode cX1_digestOfDays 53 = .ok (.lstore_n 3, 1) := dz_66 (kBcX1_digestOfDays_1 53 rfl rfl)
theorem dX1_digestOfDays_54 : decode cX1_digestOfDays 54 = .ok (.iinc 5 1, 3) := dz_132 (kBcX1_digestOfDays_1 54 rfl rfl) (kBcX1_digestOfDays_1 55 rfl rfl) (kBcX1_digestOfDays_1 56 rfl rfl) rfl
theorem dX1_digestOfDays_57 : decode cX1_digestOfDays 57 = .ok (.goto (-52), 3) := dz_167 (kBcX1_digestOfDays_1 57 rfl rfl) (kBcX1_digestOfDays_1 58 rfl rfl) (kBcX1_digestOfDays_1 59 rfl rfl) rfl
theorem dX1_digestOfDays_60 : decode cX1_digestOfDays 60 = .ok (.lload_n 3, 1) := dz_33 (kBcX1_digestOfDays_1 60 rfl rfl)
theorem dX1_digestOfDays_61 : decode cX1_digestOfDays 61 = .ok (.lreturn, 1) := dz_173 (kBcX1_digestOfDays_1 61 rfl rfl)
def kCcX1_digestOfWays_0 : List Nat := [31, 66, 3, 54, 5, 21, 5, 7, 162, 0, 71, 3, 54, 6, 21, 6, 7, 162, 0, 56, 33, 20, 0, 233, 105, 42, 21, 5, 21, 6, 3, 182]
def kCcX1_digestOfWays_1 : List Nat := [1, 75, 133, 97, 66, 42, 33, 42, 21, 5, 21, 6, 3, 182, 0, 172, 182, 1, 62, 66, 42, 33, 42, 21, 5, 21, 6, 4, 182, 0, 172, 182]
def kCcX1_digestOfWays_2 : List Nat := [1, 62, 66, 132, 6, 1, 167, 255, 200, 132, 5, 1, 167, 255, 185, 33, 173]
def kRcX1_digestOfWays_3 : List Nat := []
def kRcX1_digestOfWays_2 : List Nat := kCcX1_digestOfWays_2 ++ kRcX1_digestOfWays_3
def kRcX1_digestOfWays_1 : List Nat := kCcX1_digestOfWays_1 ++ kRcX1_digestOfWays_2
def kRcX1_digestOfWays_0 : List Nat := kCcX1_digestOfWays_0 ++ kRcX1_digestOfWays_1
theorem kRcX1_digestOfWays_eq : cX1_digestOfWays.data.toList.map UInt8.toNat = kRcX1_digestOfWays_0 := by decide +kernel
theorem katcX1_digestOfWays_0 (i : Nat) : (cX1_digestOfWays.data.toList.map UInt8.toNat)[0 + i]? = kRcX1_digestOfWays_0[i]? := by rw [kRcX1_digestOfWays_eq, Nat.zero_add]
theorem katcX1_digestOfWays_1 : ∀ i : Nat, (cX1_digestOfWays.data.toList.map UInt8.toNat)[32 + i]? = kRcX1_digestOfWays_1[i]? := kstep katcX1_digestOfWays_0 (C := kCcX1_digestOfWays_0) rfl rfl
theorem katcX1_digestOfWays_2 : ∀ i : Nat, (cX1_digestOfWays.data.toList.map UInt8.toNat)[64 + i]? = kRcX1_digestOfWays_2[i]? := kstep katcX1_digestOfWays_1 (C := kCcX1_digestOfWays_1) rfl rfl
theorem kBcX1_digestOfWays_0 {b : Nat} (p : Nat) (hp : Nat.ble 0 p = true) (h : kCcX1_digestOfWays_0[p - 0]? = some b) : kb cX1_digestOfWays p b := kin katcX1_digestOfWays_0 rfl hp h
theorem kBcX1_digestOfWays_1 {b : Nat} (p : Nat) (hp : Nat.ble 32 p = true) (h : kCcX1_digestOfWays_1[p - 32]? = some b) : kb cX1_digestOfWays p b := kin katcX1_digestOfWays_1 rfl hp h
theorem kBcX1_digestOfWays_2 {b : Nat} (p : Nat) (hp : Nat.ble 64 p = true) (h : kCcX1_digestOfWays_2[p - 64]? = some b) : kb cX1_digestOfWays p b := kin katcX1_digestOfWays_2 rfl hp h
theorem dX1_digestOfWays_0 : decode cX1_digestOfWays 0 = .ok (.lload_n 1, 1) := dz_31 (kBcX1_digestOfWays_0 0 rfl rfl)
theorem dX1_digestOfWays_1 : decode cX1_digestOfWays 1 = .ok (.lstore_n 3, 1) := dz_66 (kBcX1_digestOfWays_0 1 rfl rfl)
theorem dX1_digestOfWays_2 : decode cX1_digestOfWays 2 = .ok (.iconst 0, 1) := dz_3 (kBcX1_digestOfWays_0 2 rfl rfl)
theorem dX1_digestOfWays_3 : decode cX1_digestOfWays 3 = .ok (.istore 5, 2) := dz_54 (kBcX1_digestOfWays_0 3 rfl rfl) (kBcX1_digestOfWays_0 4 rfl rfl)
theorem dX1_digestOfWays_5 : decode cX1_digestOfWays 5 = .ok (.iload 5, 2) := dz_21 (kBcX1_digestOfWays_0 5 rfl rfl) (kBcX1_digestOfWays_0 6 rfl rfl)
theorem dX1_digestOfWays_7 : decode cX1_digestOfWays 7 = .ok (.iconst 4, 1) := dz_7 (kBcX1_digestOfWays_0 7 rfl rfl)
theorem dX1_digestOfWays_8 : decode cX1_digestOfWays 8 = .ok (.if_icmp .ge 71, 3) := dz_162 (kBcX1_digestOfWays_0 8 rfl rfl) (kBcX1_digestOfWays_0 9 rfl rfl) (kBcX1_digestOfWays_0 10 rfl rfl) rfl
theorem dX1_digestOfWays_11 : decode cX1_digestOfWays 11 = .ok (.iconst 0, 1) := dz_3 (kBcX1_digestOfWays_0 11 rfl rfl)
theorem dX1_digestOfWays_12 : decode cX1_digestOfWays 12 = .ok (.istore 6, 2) := dz_54 (kBcX1_digestOfWays_0 12 rfl rfl) (kBcX1_digestOfWays_0 13 rfl rfl)
theorem dX1_digestOfWays_14 : decode cX1_digestOfWays 14 = .ok (.iload 6, 2) := dz_21 (kBcX1_digestOfWays_0 14 rfl rfl) (kBcX1_digestOfWays_0 15 rfl rfl)
theorem dX1_digestOfWays_16 : decode cX1_digestOfWays 16 = .ok (.iconst 4, 1) := dz_7 (kBcX1_digestOfWays_0 16 rfl rfl)
theorem dX1_digestOfWays_17 : decode cX1_digestOfWays 17 = .ok (.if_icmp .ge 56, 3) := dz_162 (kBcX1_digestOfWays_0 17 rfl rfl) (kBcX1_digestOfWays_0 18 rfl rfl) (kBcX1_digestOfWays_0 19 rfl rfl) rfl
theorem dX1_digestOfWays_20 : decode cX1_digestOfWays 20 = .ok (.lload_n 3, 1) := dz_33 (kBcX1_digestOfWays_0 20 rfl rfl)
theorem dX1_digestOfWays_21 : decode cX1_digestOfWays 21 = .ok (.ldc2_w 233, 3) := dz_20 (kBcX1_digestOfWays_0 21 rfl rfl) (kBcX1_digestOfWays_0 22 rfl rfl) (kBcX1_digestOfWays_0 23 rfl rfl) rfl
theorem dX1_digestOfWays_24 : decode cX1_digestOfWays 24 = .ok (.lmul, 1) := dz_105 (kBcX1_digestOfWays_0 24 rfl rfl)
theorem dX1_digestOfWays_25 : decode cX1_digestOfWays 25 = .ok (.aload_n 0, 1) := dz_42 (kBcX1_digestOfWays_0 25 rfl rfl)
theorem dX1_digestOfWays_26 : decode cX1_digestOfWays 26 = .ok (.iload 5, 2) := dz_21 (kBcX1_digestOfWays_0 26 rfl rfl) (kBcX1_digestOfWays_0 27 rfl rfl)
theorem dX1_digestOfWays_28 : decode cX1_digestOfWays 28 = .ok (.iload 6, 2) := dz_21 (kBcX1_digestOfWays_0 28 rfl rfl) (kBcX1_digestOfWays_0 29 rfl rfl)
theorem dX1_digestOfWays_30 : decode cX1_digestOfWays 30 = .ok (.iconst 0, 1) := dz_3 (kBcX1_digestOfWays_0 30 rfl rfl)
theorem dX1_digestOfWays_31 : decode cX1_digestOfWays 31 = .ok (.invokevirtual 331, 3) := dz_182 (kBcX1_digestOfWays_0 31 rfl rfl) (kBcX1_digestOfWays_1 32 rfl rfl) (kBcX1_digestOfWays_1 33 rfl rfl) rfl
theorem dX1_digestOfWays_34 : decode cX1_digestOfWays 34 = .ok (.i2l, 1) := dz_133 (kBcX1_digestOfWays_1 34 rfl rfl)
theorem dX1_digestOfWays_35 : decode cX1_digestOfWays 35 = .ok (.ladd, 1) := dz_97 (kBcX1_digestOfWays_1 35 rfl rfl)
theorem dX1_digestOfWays_36 : decode cX1_digestOfWays 36 = .ok (.lstore_n 3, 1) := dz_66 (kBcX1_digestOfWays_1 36 rfl rfl)
theorem dX1_digestOfWays_37 : decode cX1_digestOfWays 37 = .ok (.aload_n 0, 1) := dz_42 (kBcX1_digestOfWays_1 37 rfl rfl)
theorem dX1_digestOfWays_38 : decode cX1_digestOfWays 38 = .ok (.lload_n 3, 1) := dz_33 (kBcX1_digestOfWays_1 38 rfl rfl)
theorem dX1_digestOfWays_39 : decode cX1_digestOfWays 39 = .ok (.aload_n 0, 1) := dz_42 (kBcX1_digestOfWays_1 39 rfl rfl)
theorem dX1_digestOfWays_40 : decode cX1_digestOfWays 40 = .ok (.iload 5, 2) := dz_21 (kBcX1_digestOfWays_1 40 rfl rfl) (kBcX1_digestOfWays_1 41 rfl rfl)
theorem dX1_digestOfWays_42 : decode cX1_digestOfWays 42 = .ok (.iload 6, 2) := dz_21 (kBcX1_digestOfWays_1 42 rfl rfl) (kBcX1_digestOfWays_1 43 rfl rfl)
theorem dX1_digestOfWays_44 : decode cX1_digestOfWays 44 = .ok (.iconst 0, 1) := dz_3 (kBcX1_digestOfWays_1 44 rfl rfl)
theorem dX1_digestOfWays_45 : decode cX1_digestOfWays 45 = .ok (.invokevirtual 172, 3) := dz_182 (kBcX1_digestOfWays_1 45 rfl rfl) (kBcX1_digestOfWays_1 46 rfl rfl) (kBcX1_digestOfWays_1 47 rfl rfl) rfl
theorem dX1_digestOfWays_48 : decode cX1_digestOfWays 48 = .ok (.invokevirtual 318, 3) := dz_182 (kBcX1_digestOfWays_1 48 rfl rfl) (kBcX1_digestOfWays_1 49 rfl rfl) (kBcX1_digestOfWays_1 50 rfl rfl) rfl
theorem dX1_digestOfWays_51 : decode cX1_digestOfWays 51 = .ok (.lstore_n 3, 1) := dz_66 (kBcX1_digestOfWays_1 51 rfl rfl)
theorem dX1_digestOfWays_52 : decode cX1_digestOfWays 52 = .ok (.aload_n 0, 1) := dz_42 (kBcX1_digestOfWays_1 52 rfl rfl)
theorem dX1_digestOfWays_53 : decode cX1_digestOfWays 53 = .ok (.lload_n 3, 1) := dz_33 (kBcX1_digestOfWays_1 53 rfl rfl)
theorem dX1_digestOfWays_54 : decode cX1_digestOfWays 54 = .ok (.aload_n 0, 1) := dz_42 (kBcX1_digestOfWays_1 54 rfl rfl)
theorem dX1_digestOfWays_55 : decode cX1_digestOfWays 55 = .ok (.iload 5, 2) := dz_21 (kBcX1_digestOfWays_1 55 rfl rfl) (kBcX1_digestOfWays_1 56 rfl rfl)
theorem dX1_digestOfWays_57 : decode cX1_digestOfWays 57 = .ok (.iload 6, 2) := dz_21 (kBcX1_digestOfWays_1 57 rfl rfl) (kBcX1_digestOfWays_1 58 rfl rfl)
theorem dX1_digestOfWays_59 : decode cX1_digestOfWays 59 = .ok (.iconst 1, 1) := dz_4 (kBcX1_digestOfWays_1 59 rfl rfl)
theorem dX1_digestOfWays_60 : decode cX1_digestOfWays 60 = .ok (.invokevirtual 172, 3) := dz_182 (kBcX1_digestOfWays_1 60 rfl rfl) (kBcX1_digestOfWays_1 61 rfl rfl) (kBcX1_digestOfWays_1 62 rfl rfl) rfl
theorem dX1_digestOfWays_63 : decode cX1_digestOfWays 63 = .ok (.invokevirtual 318, 3) := dz_182 (kBcX1_digestOfWays_1 63 rfl rfl) (kBcX1_digestOfWays_2 64 rfl rfl) (kBcX1_digestOfWays_2 65 rfl rfl) rfl
theorem dX1_digestOfWays_66 : decode cX1_digestOfWays 66 = .ok (.lstore_n 3, 1) := dz_66 (kBcX1_digestOfWays_2 66 rfl rfl)
theorem dX1_digestOfWays_67 : decode cX1_digestOfWays 67 = .ok (.iinc 6 1, 3) := dz_132 (kBcX1_digestOfWays_2 67 rfl rfl) (kBcX1_digestOfWays_2 68 rfl rfl) (kBcX1_digestOfWays_2 69 rfl rfl) rfl
theorem dX1_digestOfWays_70 : decode cX1_digestOfWays 70 = .ok (.goto (-56), 3) := dz_167 (kBcX1_digestOfWays_2 70 rfl rfl) (kBcX1_digestOfWays_2 71 rfl rfl) (kBcX1_digestOfWays_2 72 rfl rfl) rfl
theorem dX1_digestOfWays_73 : decode cX1_digestOfWays 73 = .ok (.iinc 5 1, 3) := dz_132 (kBcX1_digestOfWays_2 73 rfl rfl) (kBcX1_digestOfWays_2 74 rfl rfl) (kBcX1_digestOfWays_2 75 rfl rfl) rfl
theorem dX1_digestOfWays_76 : decode cX1_digestOfWays 76 = .ok (.goto (-71), 3) := dz_167 (kBcX1_digestOfWays_2 76 rfl rfl) (kBcX1_digestOfWays_2 77 rfl rfl) (kBcX1_digestOfWays_2 78 rfl rfl) rfl
theorem dX1_digestOfWays_79 : decode cX1_digestOfWays 79 = .ok (.lload_n 3, 1) := dz_33 (kBcX1_digestOfWays_2 79 rfl rfl)
theorem dX1_digestOfWays_80 : decode cX1_digestOfWays 80 = .ok (.lreturn, 1) := dz_173 (kBcX1_digestOfWays_2 80 rfl rfl)
def kCcX1_digestOfFeastsInYears_0 : List Nat := [31, 66, 3, 54, 5, 21, 5, 7, 162, 0, 48, 3, 54, 6, 21, 6, 7, 162, 0, 33, 33, 20, 0, 233, 105, 42, 21, 6, 42, 180, 0, 13]
def kCcX1_digestOfFeastsInYears_1 : List Nat := [21, 5, 46, 182, 0, 176, 184, 0, 92, 133, 97, 66, 132, 6, 1, 167, 255, 223, 132, 5, 1, 167, 255, 208, 33, 173]
def kRcX1_digestOfFeastsInYears_2 : List Nat := []
def kRcX1_digestOfFeastsInYears_1 : List Nat := kCcX1_digestOfFeastsInYears_1 ++ kRcX1_digestOfFeastsInYears_2
def kRcX1_digestOfFeastsInYears_0 : List Nat := kCcX1_digestOfFeastsInYears_0 ++ kRcX1_digestOfFeastsInYears_1
theorem kRcX1_digestOfFeastsInYears_eq : cX1_digestOfFeastsInYears.data.toList.map UInt8.toNat = kRcX1_digestOfFeastsInYears_0 := by decide +kernel
theorem katcX1_digestOfFeastsInYears_0 (i : Nat) : (cX1_digestOfFeastsInYears.data.toList.map UInt8.toNat)[0 + i]? = kRcX1_digestOfFeastsInYears_0[i]? := by rw [kRcX1_digestOfFeastsInYears_eq, Nat.zero_add]
theorem katcX1_digestOfFeastsInYears_1 : ∀ i : Nat, (cX1_digestOfFeastsInYears.data.toList.map UInt8.toNat)[32 + i]? = kRcX1_digestOfFeastsInYears_1[i]? := kstep katcX1_digestOfFeastsInYears_0 (C := kCcX1_digestOfFeastsInYears_0) rfl rfl
theorem kBcX1_digestOfFeastsInYears_0 {b : Nat} (p : Nat) (hp : Nat.ble 0 p = true) (h : kCcX1_digestOfFeastsInYears_0[p - 0]? = some b) : kb cX1_digestOfFeastsInYears p b := kin katcX1_digestOfFeastsInYears_0 rfl hp h
theorem kBcX1_digestOfFeastsInYears_1 {b : Nat} (p : Nat) (hp : Nat.ble 32 p = true) (h : kCcX1_digestOfFeastsInYears_1[p - 32]? = some b) : kb cX1_digestOfFeastsInYears p b := kin katcX1_digestOfFeastsInYears_1 rfl hp h
theorem dX1_digestOfFeastsInYears_0 : decode cX1_digestOfFeastsInYears 0 = .ok (.lload_n 1, 1) := dz_31 (kBcX1_digestOfFeastsInYears_0 0 rfl rfl)
theorem dX1_digestOfFeastsInYears_1 : decode cX1_digestOfFeastsInYears 1 = .ok (.lstore_n 3, 1) := dz_66 (kBcX1_digestOfFeastsInYears_0 1 rfl rfl)
theorem dX1_digestOfFeastsInYears_2 : decode cX1_digestOfFeastsInYears 2 = .ok (.iconst 0, 1) := dz_3 (kBcX1_digestOfFeastsInYears_0 2 rfl rfl)
theorem dX1_digestOfFeastsInYears_3 : decode cX1_digestOfFeastsInYears 3 = .ok (.istore 5, 2) := dz_54 (kBcX1_digestOfFeastsInYears_0 3 rfl rfl) (kBcX1_digestOfFeastsInYears_0 4 rfl rfl)
theorem dX1_digestOfFeastsInYears_5 : decode cX1_digestOfFeastsInYears 5 = .ok (.iload 5, 2) := dz_21 (kBcX1_digestOfFeastsInYears_0 5 rfl rfl) (kBcX1_digestOfFeastsInYears_0 6 rfl rfl)
theorem dX1_digestOfFeastsInYears_7 : decode cX1_digestOfFeastsInYears 7 = .ok (.iconst 4, 1) := dz_7 (kBcX1_digestOfFeastsInYears_0 7 rfl rfl)
theorem dX1_digestOfFeastsInYears_8 : decode cX1_digestOfFeastsInYears 8 = .ok (.if_icmp .ge 48, 3) := dz_162 (kBcX1_digestOfFeastsInYears_0 8 rfl rfl) (kBcX1_digestOfFeastsInYears_0 9 rfl rfl) (kBcX1_digestOfFeastsInYears_0 10 rfl rfl) rfl
theorem dX1_digestOfFeastsInYears_11 : decode cX1_digestOfFeastsInYears 11 = .ok (.iconst 0, 1) := dz_3 (kBcX1_digestOfFeastsInYears_0 11 rfl rfl)
theorem dX1_digestOfFeastsInYears_12 : decode cX1_digestOfFeastsInYears 12 = .ok (.istore 6, 2) := dz_54 (kBcX1_digestOfFeastsInYears_0 12 rfl rfl) (kBcX1_digestOfFeastsInYears_0 13 rfl rfl)
theorem dX1_digestOfFeastsInYears_14 : decode cX1_digestOfFeastsInYears 14 = .ok (.iload 6, 2) := dz_21 (kBcX1_digestOfFeastsInYears_0 14 rfl rfl) (kBcX1_digestOfFeastsInYears_0 15 rfl rfl)
theorem dX1_digestOfFeastsInYears_16 : decode cX1_digestOfFeastsInYears 16 = .ok (.iconst 4, 1) := dz_7 (kBcX1_digestOfFeastsInYears_0 16 rfl rfl)
theorem dX1_digestOfFeastsInYears_17 : decode cX1_digestOfFeastsInYears 17 = .ok (.if_icmp .ge 33, 3) := dz_162 (kBcX1_digestOfFeastsInYears_0 17 rfl rfl) (kBcX1_digestOfFeastsInYears_0 18 rfl rfl) (kBcX1_digestOfFeastsInYears_0 19 rfl rfl) rfl
theorem dX1_digestOfFeastsInYears_20 : decode cX1_digestOfFeastsInYears 20 = .ok (.lload_n 3, 1) := dz_33 (kBcX1_digestOfFeastsInYears_0 20 rfl rfl)
theorem dX1_digestOfFeastsInYears_21 : decode cX1_digestOfFeastsInYears 21 = .ok (.ldc2_w 233, 3) := dz_20 (kBcX1_digestOfFeastsInYears_0 21 rfl rfl) (kBcX1_digestOfFeastsInYears_0 22 rfl rfl) (kBcX1_digestOfFeastsInYears_0 23 rfl rfl) rfl
theorem dX1_digestOfFeastsInYears_24 : decode cX1_digestOfFeastsInYears 24 = .ok (.lmul, 1) := dz_105 (kBcX1_digestOfFeastsInYears_0 24 rfl rfl)
theorem dX1_digestOfFeastsInYears_25 : decode cX1_digestOfFeastsInYears 25 = .ok (.aload_n 0, 1) := dz_42 (kBcX1_digestOfFeastsInYears_0 25 rfl rfl)
theorem dX1_digestOfFeastsInYears_26 : decode cX1_digestOfFeastsInYears 26 = .ok (.iload 6, 2) := dz_21 (kBcX1_digestOfFeastsInYears_0 26 rfl rfl) (kBcX1_digestOfFeastsInYears_0 27 rfl rfl)
theorem dX1_digestOfFeastsInYears_28 : decode cX1_digestOfFeastsInYears 28 = .ok (.aload_n 0, 1) := dz_42 (kBcX1_digestOfFeastsInYears_0 28 rfl rfl)
theorem dX1_digestOfFeastsInYears_29 : decode cX1_digestOfFeastsInYears 29 = .ok (.getfield 13, 3) := dz_180 (kBcX1_digestOfFeastsInYears_0 29 rfl rfl) (kBcX1_digestOfFeastsInYears_0 30 rfl rfl) (kBcX1_digestOfFeastsInYears_0 31 rfl rfl) rfl
theorem dX1_digestOfFeastsInYears_32 : decode cX1_digestOfFeastsInYears 32 = .ok (.iload 5, 2) := dz_21 (kBcX1_digestOfFeastsInYears_1 32 rfl rfl) (kBcX1_digestOfFeastsInYears_1 33 rfl rfl)
theorem dX1_digestOfFeastsInYears_34 : decode cX1_digestOfFeastsInYears 34 = .ok (.iaload, 1) := dz_46 (kBcX1_digestOfFeastsInYears_1 34 rfl rfl)
theorem dX1_digestOfFeastsInYears_35 : decode cX1_digestOfFeastsInYears 35 = .ok (.invokevirtual 176, 3) := dz_182 (kBcX1_digestOfFeastsInYears_1 35 rfl rfl) (kBcX1_digestOfFeastsInYears_1 36 rfl rfl) (kBcX1_digestOfFeastsInYears_1 37 rfl rfl) rfl
theorem dX1_digestOfFeastsInYears_38 : decode cX1_digestOfFeastsInYears 38 = .ok (.invokestatic 92, 3) := dz_184 (kBcX1_digestOfFeastsInYears_1 38 rfl rfl) (kBcX1_digestOfFeastsInYears_1 39 rfl rfl) (kBcX1_digestOfFeastsInYears_1 40 rfl rfl) rfl
theorem dX1_digestOfFeastsInYears_41 : decode cX1_digestOfFeastsInYears 41 = .ok (.i2l, 1) := dz_133 (kBcX1_digestOfFeastsInYears_1 41 rfl rfl)
theorem dX1_digestOfFeastsInYears_42 : decode cX1_digestOfFeastsInYears 42 = .ok (.ladd, 1) := dz_97 (kBcX1_digestOfFeastsInYears_1 42 rfl rfl)
theorem dX1_digestOfFeastsInYears_43 : decode cX1_digestOfFeastsInYears 43 = .ok (.lstore_n 3, 1) := dz_66 (kBcX1_digestOfFeastsInYears_1 43 rfl rfl)
theorem dX1_digestOfFeastsInYears_44 : decode cX1_digestOfFeastsInYears 44 = .ok (.iinc 6 1, 3) := dz_132 (kBcX1_digestOfFeastsInYears_1 44 rfl rfl) (kBcX1_digestOfFeastsInYears_1 45 rfl rfl) (kBcX1_digestOfFeastsInYears_1 46 rfl rfl) rfl
theorem dX1_digestOfFeastsInYears_47 : decode cX1_digestOfFeastsInYears 47 = .ok (.goto (-33), 3) := dz_167 (kBcX1_digestOfFeastsInYears_1 47 rfl rfl) (kBcX1_digestOfFeastsInYears_1 48 rfl rfl) (kBcX1_digestOfFeastsInYears_1 49 rfl rfl) rfl
theorem dX1_digestOfFeastsInYears_50 : decode cX1_digestOfFeastsInYears 50 = .ok (.iinc 5 1, 3) := dz_132 (kBcX1_digestOfFeastsInYears_1 50 rfl rfl) (kBcX1_digestOfFeastsInYears_1 51 rfl rfl) (kBcX1_digestOfFeastsInYears_1 52 rfl rfl) rfl
theorem dX1_digestOfFeastsInYears_53 : decode cX1_digestOfFeastsInYears 53 = .ok (.goto (-48), 3) := dz_167 (kBcX1_digestOfFeastsInYears_1 53 rfl rfl) (kBcX1_digestOfFeastsInYears_1 54 rfl rfl) (kBcX1_digestOfFeastsInYears_1 55 rfl rfl) rfl
theorem dX1_digestOfFeastsInYears_56 : decode cX1_digestOfFeastsInYears 56 = .ok (.lload_n 3, 1) := dz_33 (kBcX1_digestOfFeastsInYears_1 56 rfl rfl)
theorem dX1_digestOfFeastsInYears_57 : decode cX1_digestOfFeastsInYears 57 = .ok (.lreturn, 1) := dz_173 (kBcX1_digestOfFeastsInYears_1 57 rfl rfl)
def kCcX2_init_0 : List Nat := [42, 183, 0, 1, 177]
theorem kRcX2_init_eq : cX2_init.data.toList.map UInt8.toNat = kCcX2_init_0 := by decide +kernel
theorem dX2_init_0 : decode cX2_init 0 = .ok (.aload_n 0, 1) := dz_42 (kin0 (p := 0) kRcX2_init_eq rfl)
theorem dX2_init_1 : decode cX2_init 1 = .ok (.invokespecial 1, 3) := dz_183 (kin0 (p := 1) kRcX2_init_eq rfl) (kin0 (p := 2) kRcX2_init_eq rfl) (kin0 (p := 3) kRcX2_init_eq rfl) rfl
theorem dX2_init_4 : decode cX2_init 4 = .ok (.return_, 1) := dz_177 (kin0 (p := 4) kRcX2_init_eq rfl)
def kCcX3_init_0 : List Nat := [42, 183, 0, 1, 42, 7, 189, 0, 7, 89, 3, 5, 188, 10, 89, 3, 3, 79, 89, 4, 4, 79, 83, 89, 4, 5, 188, 10, 89, 3, 3, 79]
def kCcX3_init_1 : List Nat := [89, 4, 4, 79, 83, 89, 5, 5, 188, 10, 89, 3, 3, 79, 89, 4, 4, 79, 83, 89, 6, 5, 188, 10, 89, 3, 3, 79, 89, 4, 4, 79]
def kCcX3_init_2 : List Nat := [83, 181, 0, 9, 42, 7, 188, 10, 181, 0, 15, 42, 7, 189, 0, 7, 89, 3, 5, 188, 10, 89, 3, 4, 79, 89, 4, 4, 79, 83, 89, 4]
def kCcX3_init_3 : List Nat := [5, 188, 10, 89, 3, 4, 79, 89, 4, 4, 79, 83, 89, 5, 5, 188, 10, 89, 3, 4, 79, 89, 4, 4, 79, 83, 89, 6, 5, 188, 10, 89]
def kCcX3_init_4 : List Nat := [3, 4, 79, 89, 4, 4, 79, 83, 181, 0, 18, 42, 7, 189, 0, 7, 89, 3, 6, 188, 10, 89, 3, 3, 79, 89, 4, 4, 79, 89, 5, 4]
def kCcX3_init_5 : List Nat := [79, 83, 89, 4, 6, 188, 10, 89, 3, 3, 79, 89, 4, 4, 79, 89, 5, 4, 79, 83, 89, 5, 6, 188, 10, 89, 3, 3, 79, 89, 4, 4]
def kCcX3_init_6 : List Nat := [79, 89, 5, 4, 79, 83, 89, 6, 6, 188, 10, 89, 3, 3, 79, 89, 4, 4, 79, 89, 5, 4, 79, 83, 181, 0, 21, 177]
def kRcX3_init_7 : List Nat := []
def kRcX3_init_6 : List Nat := kCcX3_init_6 ++ kRcX3_init_7
def kRcX3_init_5 : List Nat := kCcX3_init_5 ++ kRcX3_init_6
def kRcX3_init_4 : List Nat := kCcX3_init_4 ++ kRcX3_init_5
def kRcX3_init_3 : List Nat := kCcX3_init_3 ++ kRcX3_init_4
def kRcX3_init_2 : List Nat := kCcX3_init_2 ++ kRcX3_init_3
def kRcX3_init_1 : List Nat := kCcX3_init_1 ++ kRcX3_init_2
def kRcX3_init_0 : List Nat := kCcX3_init_0 ++ kRcX3_init_1
theorem kRcX3_init_eq : cX3_init.data.toList.map UInt8.toNat = kRcX3_init_0 := by decide +kernel
theorem katcX3_init_0 (i : Nat) : (cX3_init.data.toList.map UInt8.toNat)[0 + i]? = kRcX3_init_0[i]? := by rw [kRcX3_init_eq, Nat.zero_add]
theorem katcX3_init_1 : ∀ i : Nat, (cX3_init.data.toList.map UInt8.toNat)[32 + i]? = kRcX3_init_1[i]? := kstep katcX3_init_0 (C := kCcX3_init_0) rfl rfl
theorem katcX3_init_2 : ∀ i : Nat, (cX3_init.data.toList.map UInt8.toNat)[64 + i]? = kRcX3_init_2[i]? := kstep katcX3_init_1 (C := kCcX3_init_1) rfl rfl
theorem katcX3_init_3 : ∀ i : Nat, (cX3_init.data.toList.map UInt8.toNat)[96 + i]? = kRcX3_init_3[i]? := kstep katcX3_init_2 (C := kCcX3_init_2) rfl rfl
theorem katcX3_init_4 : ∀ i : Nat, (cX3_init.data.toList.map UInt8.toNat)[128 + i]? = kRcX3_init_4[i]? := kstep katcX3_init_3 (C := kCcX3_init_3) rfl rfl
theorem katcX3_init_5 : ∀ i : Nat, (cX3_init.data.toList.map UInt8.toNat)[160 + i]? = kRcX3_init_5[i]? := kstep katcX3_init_4 (C := kCcX3_init_4) rfl rfl
theorem katcX3_init_6 : ∀ i : Nat, (cX3_init.data.toList.map UInt8.toNat)[192 + i]? = kRcX3_init_6[i]? := kstep katcX3_init_5 (C := kCcX3_init_5) rfl rfl
theorem kBcX3_init_0 {b : Nat} (p : Nat) (hp : Nat.ble 0 p = true) (h : kCcX3_init_0[p - 0]? = some b) : kb cX3_init p b := kin katcX3_init_0 rfl hp h
theorem kBcX3_init_1 {b : Nat} (p : Nat) (hp : Nat.ble 32 p = true) (h : kCcX3_init_1[p - 32]? = some b) : kb cX3_init p b := kin katcX3_init_1 rfl hp h
theorem kBcX3_init_2 {b : Nat} (p : Nat) (hp : Nat.ble 64 p = true) (h : kCcX3_init_2[p - 64]? = some b) : kb cX3_init p b := kin katcX3_init_2 rfl hp h
theorem kBcX3_init_3 {b : Nat} (p : Nat) (hp : Nat.ble 96 p = true) (h : kCcX3_init_3[p - 96]? = some b) : kb cX3_init p b := kin katcX3_init_3 rfl hp h
theorem kBcX3_init_4 {b : Nat} (p : Nat) (hp : Nat.ble 128 p = true) (h : kCcX3_init_4[p - 128]? = some b) : kb cX3_init p b := kin katcX3_init_4 rfl hp h
theorem kBcX3_init_5 {b : Nat} (p : Nat) (hp : Nat.ble 160 p = true) (h : kCcX3_init_5[p - 160]? = some b) : kb cX3_init p b := kin katcX3_init_5 rfl hp h
theorem kBcX3_init_6 {b : Nat} (p : Nat) (hp : Nat.ble 192 p = true) (h : kCcX3_init_6[p - 192]? = some b) : kb cX3_init p b := kin katcX3_init_6 rfl hp h
theorem dX3_init_0 : decode cX3_init 0 = .ok (.aload_n 0, 1) := dz_42 (kBcX3_init_0 0 rfl rfl)
theorem dX3_init_1 : decode cX3_init 1 = .ok (.invokespecial 1, 3) := dz_183 (kBcX3_init_0 1 rfl rfl) (kBcX3_init_0 2 rfl rfl) (kBcX3_init_0 3 rfl rfl) rfl
theorem dX3_init_4 : decode cX3_init 4 = .ok (.aload_n 0, 1) := dz_42 (kBcX3_init_0 4 rfl rfl)
theorem dX3_init_5 : decode cX3_init 5 = .ok (.iconst 4, 1) := dz_7 (kBcX3_init_0 5 rfl rfl)
theorem dX3_init_6 : decode cX3_init 6 = .ok (.anewarray 7, 3) := dz_189 (kBcX3_init_0 6 rfl rfl) (kBcX3_init_0 7 rfl rfl) (kBcX3_init_0 8 rfl rfl) rfl
theorem dX3_init_9 : decode cX3_init 9 = .ok (.dup, 1) := dz_89 (kBcX3_init_0 9 rfl rfl)
theorem dX3_init_10 : decode cX3_init 10 = .ok (.iconst 0, 1) := dz_3 (kBcX3_init_0 10 rfl rfl)
theorem dX3_init_11 : decode cX3_init 11 = .ok (.iconst 2, 1) := dz_5 (kBcX3_init_0 11 rfl rfl)
theorem dX3_init_12 : decode cX3_init 12 = .ok (.newarray .int, 2) := by decide +kernel
theorem dX3_init_14 : decode cX3_init 14 = .ok (.dup, 1) := dz_89 (kBcX3_init_0 14 rfl rfl)
theorem dX3_init_15 : decode cX3_init 15 = .ok (.iconst 0, 1) := dz_3 (kBcX3_init_0 15 rfl rfl)
theorem dX3_init_16 : decode cX3_init 16 = .ok (.iconst 0, 1) := dz_3 (kBcX3_init_0 16 rfl rfl)
theorem dX3_init_17 : decode cX3_init 17 = .ok (.iastore, 1) := dz_79 (kBcX3_init_0 17 rfl rfl)
theorem dX3_init_18 : decode cX3_init 18 = .ok (.dup, 1) := dz_89 (kBcX3_init_0 18 rfl rfl)
theorem dX3_init_19 : decode cX3_init 19 = .ok (.iconst 1, 1) := dz_4 (kBcX3_init_0 19 rfl rfl)
theorem dX3_init_20 : decode cX3_init 20 = .ok (.iconst 1, 1) := dz_4 (kBcX3_init_0 20 rfl rfl)
theorem dX3_init_21 : decode cX3_init 21 = .ok (.iastore, 1) := dz_79 (kBcX3_init_0 21 rfl rfl)
theorem dX3_init_22 : decode cX3_init 22 = .ok (.aastore, 1) := dz_83 (kBcX3_init_0 22 rfl rfl)
theorem dX3_init_23 : decode cX3_init 23 = .ok (.dup, 1) := dz_89 (kBcX3_init_0 23 rfl rfl)
theorem dX3_init_24 : decode cX3_init 24 = .ok (.iconst 1, 1) := dz_4 (kBcX3_init_0 24 rfl rfl)
theorem dX3_init_25 : decode cX3_init 25 = .ok (.iconst 2, 1) := dz_5 (kBcX3_init_0 25 rfl rfl)
theorem dX3_init_26 : decode cX3_init 26 = .ok (.newarray .int, 2) := by decide +kernel
theorem dX3_init_28 : decode cX3_init 28 = .ok (.dup, 1) := dz_89 (kBcX3_init_0 28 rfl rfl)
theorem dX3_init_29 : decode cX3_init 29 = .ok (.iconst 0, 1) := dz_3 (kBcX3_init_0 29 rfl rfl)
theorem dX3_init_30 : decode cX3_init 30 = .ok (.iconst 0, 1) := dz_3 (kBcX3_init_0 30 rfl rfl)
theorem dX3_init_31 : decode cX3_init 31 = .ok (.iastore, 1) := dz_79 (kBcX3_init_0 31 rfl rfl)
theorem dX3_init_32 : decode cX3_init 32 = .ok (.dup, 1) := dz_89 (kBcX3_init_1 32 rfl rfl)
theorem dX3_init_33 : decode cX3_init 33 = .ok (.iconst 1, 1) := dz_4 (kBcX3_init_1 33 rfl rfl)
theorem dX3_init_34 : decode cX3_init 34 = .ok (.iconst 1, 1) := dz_4 (kBcX3_init_1 34 rfl rfl)
theorem dX3_init_35 : decode cX3_init 35 = .ok (.iastore, 1) := dz_79 (kBcX3_init_1 35 rfl rfl)
theorem dX3_init_36 : decode cX3_init 36 = .ok (.aastore, 1) := dz_83 (kBcX3_init_1 36 rfl rfl)
theorem dX3_init_37 : decode cX3_init 37 = .ok (.dup, 1) := dz_89 (kBcX3_init_1 37 rfl rfl)
theorem dX3_init_38 : decode cX3_init 38 = .ok (.iconst 2, 1) := dz_5 (kBcX3_init_1 38 rfl rfl)
theorem dX3_init_39 : decode cX3_init 39 = .ok (.iconst 2, 1) := dz_5 (kBcX3_init_1 39 rfl rfl)
theorem dX3_init_40 : decode cX3_init 40 = .ok (.newarray .int, 2) := by decide +kernel
theorem dX3_init_42 : decode cX3_init 42 = .ok (.dup, 1) := dz_89 (kBcX3_init_1 42 rfl rfl)
theorem dX3_init_43 : decode cX3_init 43 = .ok (.iconst 0, 1) := dz_3 (kBcX3_init_1 43 rfl rfl)
theorem dX3_init_44 : decode cX3_init 44 = .ok (.iconst 0, 1) := dz_3 (kBcX3_init_1 44 rfl rfl)
theorem dX3_init_45 : decode cX3_init 45 = .ok (.iastore, 1) := dz_79 (kBcX3_init_1 45 rfl rfl)
theorem dX3_init_46 : decode cX3_init 46 = .ok (.dup, 1) := dz_89 (kBcX3_init_1 46 rfl rfl)
theorem dX3_init_47 : decode cX3_init 47 = .ok (.iconst 1, 1) := dz_4 (kBcX3_init_1 47 rfl rfl)
theorem dX3_init_48 : decode cX3_init 48 = .ok (.iconst 1, 1) := dz_4 (kBcX3_init_1 48 rfl rfl)
theorem dX3_init_49 : decode cX3_init 49 = .ok (.iastore, 1) := dz_79 (kBcX3_init_1 49 rfl rfl)
theorem dX3_init_50 : decode cX3_init 50 = .ok (.aastore, 1) := dz_83 (kBcX3_init_1 50 rfl rfl)
theorem dX3_init_51 : decode cX3_init 51 = .ok (.dup, 1) := dz_89 (kBcX3_init_1 51 rfl rfl)
theorem dX3_init_52 : decode cX3_init 52 = .ok (.iconst 3, 1) := dz_6 (kBcX3_init_1 52 rfl rfl)
theorem dX3_init_53 : decode cX3_init 53 = .ok (.iconst 2, 1) := dz_5 (kBcX3_init_1 53 rfl rfl)
theorem dX3_init_54 : decode cX3_init 54 = .ok (.newarray .int, 2) := by decide +kernel
theorem dX3_init_56 : decode cX3_init 56 = .ok (.dup, 1) := dz_89 (kBcX3_init_1 56 rfl rfl)
theorem dX3_init_57 : decode cX3_init 57 = .ok (.iconst 0, 1) := dz_3 (kBcX3_init_1 57 rfl rfl)
theorem dX3_init_58 : decode cX3_init 58 = .ok (.iconst 0, 1) := dz_3 (kBcX3_init_1 58 rfl rfl)
theorem dX3_init_59 : decode cX3_init 59 = .ok (.iastore, 1) := dz_79 (kBcX3_init_1 59 rfl rfl)
theorem dX3_init_60 : decode cX3_init 60 = .ok (.dup, 1) := dz_89 (kBcX3_init_1 60 rfl rfl)
theorem dX3_init_61 : decode cX3_init 61 = .ok (.iconst 1, 1) := dz_4 (kBcX3_init_1 61 rfl rfl)
theorem dX3_init_62 : decode cX3_init 62 = .ok (.iconst 1, 1) := dz_4 (kBcX3_init_1 62 rfl rfl)
theorem dX3_init_63 : decode cX3_init 63 = .ok (.iastore, 1) := dz_79 (kBcX3_init_1 63 rfl rfl)
theorem dX3_init_64 : decode cX3_init 64 = .ok (.aastore, 1) := dz_83 (kBcX3_init_2 64 rfl rfl)
theorem dX3_init_65 : decode cX3_init 65 = .ok (.putfield 9, 3) := dz_181 (kBcX3_init_2 65 rfl rfl) (kBcX3_init_2 66 rfl rfl) (kBcX3_init_2 67 rfl rfl) rfl
theorem dX3_init_68 : decode cX3_init 68 = .ok (.aload_n 0, 1) := dz_42 (kBcX3_init_2 68 rfl rfl)
theorem dX3_init_69 : decode cX3_init 69 = .ok (.iconst 4, 1) := dz_7 (kBcX3_init_2 69 rfl rfl)
theorem dX3_init_70 : decode cX3_init 70 = .ok (.newarray .int, 2) := by decide +kernel
theorem dX3_init_72 : decode cX3_init 72 = .ok (.putfield 15, 3) := dz_181 (kBcX3_init_2 72 rfl rfl) (kBcX3_init_2 73 rfl rfl) (kBcX3_init_2 74 rfl rfl) rfl
theorem dX3_init_75 : decode cX3_init 75 = .ok (.aload_n 0, 1) := dz_42 (kBcX3_init_2 75 rfl rfl)
theorem dX3_init_76 : decode cX3_init 76 = .ok (.iconst 4, 1) := dz_7 (kBcX3_init_2 76 rfl rfl)
theorem dX3_init_77 : decode cX3_init 77 = .ok (.anewarray 7, 3) := dz_189 (kBcX3_init_2 77 rfl rfl) (kBcX3_init_2 78 rfl rfl) (kBcX3_init_2 79 rfl rfl) rfl
theorem dX3_init_80 : decode cX3_init 80 = .ok (.dup, 1) := dz_89 (kBcX3_init_2 80 rfl rfl)
theorem dX3_init_81 : decode cX3_init 81 = .ok (.iconst 0, 1) := dz_3 (kBcX3_init_2 81 rfl rfl)
theorem dX3_init_82 : decode cX3_init 82 = .ok (.iconst 2, 1) := dz_5 (kBcX3_init_2 82 rfl rfl)
theorem dX3_init_83 : decode cX3_init 83 = .ok (.newarray .int, 2) := by decide +kernel
theorem dX3_init_85 : decode cX3_init 85 = .ok (.dup, 1) := dz_89 (kBcX3_init_2 85 rfl rfl)
theorem dX3_init_86 : decode cX3_init 86 = .ok (.iconst 0, 1) := dz_3 (kBcX3_init_2 86 rfl rfl)
theorem dX3_init_87 : decode cX3_init 87 = .ok (.iconst 1, 1) := dz_4 (kBcX3_init_2 87 rfl rfl)
theorem dX3_init_88 : decode cX3_init 88 = .ok (.iastore, 1) := dz_79 (kBcX3_init_2 88 rfl rfl)
theorem dX3_init_89 : decode cX3_init 89 = .ok (.dup, 1) := dz_89 (kBcX3_init_2 89 rfl rfl)
theorem dX3_init_90 : decode cX3_init 90 = .ok (.iconst 1, 1) := dz_4 (kBcX3_init_2 90 rfl rfl)
theorem dX3_init_91 : decode cX3_init 91 = .ok (.iconst 1, 1) := dz_4 (kBcX3_init_2 91 rfl rfl)
theorem dX3_init_92 : decode cX3_init 92 = .ok (.iastore, 1) := dz_79 (kBcX3_init_2 92 rfl rfl)
theorem dX3_init_93 : decode cX3_init 93 = .ok (.aastore, 1) := dz_83 (kBcX3_init_2 93 rfl rfl)
theorem dX3_init_94 : decode cX3_init 94 = .ok (.dup, 1) := dz_89 (kBcX3_init_2 94 rfl rfl)
theorem dX3_init_95 : decode cX3_init 95 = .ok (.iconst 1, 1) := dz_4 (kBcX3_init_2 95 rfl rfl)
theorem dX3_init_96 : decode cX3_init 96 = .ok (.iconst 2, 1) := dz_5 (kBcX3_init_3 96 rfl rfl)
theorem dX3_init_97 : decode cX3_init 97 = .ok (.newarray .int, 2) := by decide +kernel
theorem dX3_init_99 : decode cX3_init 99 = .ok (.dup, 1) := dz_89 (kBcX3_init_3 99 rfl rfl)
theorem dX3_init_100 : decode cX3_init 100 = .ok (.iconst 0, 1) := dz_3 (kBcX3_init_3 100 rfl rfl)
theorem dX3_init_101 : decode cX3_init 101 = .ok (.iconst 1, 1) := dz_4 (kBcX3_init_3 101 rfl rfl)
theorem dX3_init_102 : decode cX3_init 102 = .ok (.iastore, 1) := dz_79 (kBcX3_init_3 102 rfl rfl)
theorem dX3_init_103 : decode cX3_init 103 = .ok (.dup, 1) := dz_89 (kBcX3_init_3 103 rfl rfl)
theorem dX3_init_104 : decode cX3_init 104 = .ok (.iconst 1, 1) := dz_4 (kBcX3_init_3 104 rfl rfl)
theorem dX3_init_105 : decode cX3_init 105 = .ok (.iconst 1, 1) := dz_4 (kBcX3_init_3 105 rfl rfl)
theorem dX3_init_106 : decode cX3_init 106 = .ok (.iastore, 1) := dz_79 (kBcX3_init_3 106 rfl rfl)
theorem dX3_init_107 : decode cX3_init 107 = .ok (.aastore, 1) := dz_83 (kBcX3_init_3 107 rfl rfl)
theorem dX3_init_108 : decode cX3_init 108 = .ok (.dup, 1) := dz_89 (kBcX3_init_3 108 rfl rfl)
theorem dX3_init_109 : decode cX3_init 109 = .ok (.iconst 2, 1) := dz_5 (kBcX3_init_3 109 rfl rfl)
theorem dX3_init_110 : decode cX3_init 110 = .ok (.iconst 2, 1) := dz_5 (kBcX3_init_3 110 rfl rfl)
theorem dX3_init_111 : decode cX3_init 111 = .ok (.newarray .int, 2) := by decide +kernel
theorem dX3_init_113 : decode cX3_init 113 = .ok (.dup, 1) := dz_89 (kBcX3_init_3 113 rfl rfl)
theorem dX3_init_114 : decode cX3_init 114 = .ok (.iconst 0, 1) := dz_3 (kBcX3_init_3 114 rfl rfl)
theorem dX3_init_115 : decode cX3_init 115 = .ok (.iconst 1, 1) := dz_4 (kBcX3_init_3 115 rfl rfl)
theorem dX3_init_116 : decode cX3_init 116 = .ok (.iastore, 1) := dz_79 (kBcX3_init_3 116 rfl rfl)
theorem dX3_init_117 : decode cX3_init 117 = .ok (.dup, 1) := dz_89 (kBcX3_init_3 117 rfl rfl)
theorem dX3_init_118 : decode cX3_init 118 = .ok (.iconst 1, 1) := dz_4 (kBcX3_init_3 118 rfl rfl)
theorem dX3_init_119 : decode cX3_init 119 = .ok (.iconst 1, 1) := dz_4 (kBcX3_init_3 119 rfl rfl)
theorem dX3_init_120 : decode cX3_init 120 = .ok (.iastore, 1) := dz_79 (kBcX3_init_3 120 rfl rfl)
theorem dX3_init_121 : decode cX3_init 121 = .ok (.aastore, 1) := dz_83 (kBcX3_init_3 121 rfl rfl)
theorem dX3_init_122 : decode cX3_init 122 = .ok (.dup, 1) := dz_89 (kBcX3_init_3 122 rfl rfl)
theorem dX3_init_123 : decode cX3_init 123 = .ok (.iconst 3, 1) := dz_6 (kBcX3_init_3 123 rfl rfl)
theorem dX3_init_124 : decode cX3_init 124 = .ok (.iconst 2, 1) := dz_5 (kBcX3_init_3 124 rfl rfl)
theorem dX3_init_125 : decode cX3_init 125 = .ok (.newarray .int, 2) := by decide +kernel
theorem dX3_init_127 : decode cX3_init 127 = .ok (.dup, 1) := dz_89 (kBcX3_init_3 127 rfl rfl)
theorem dX3_init_128 : decode cX3_init 128 = .ok (.iconst 0, 1) := dz_3 (kBcX3_init_4 128 rfl rfl)
theorem dX3_init_129 : decode cX3_init 129 = .ok (.iconst 1, 1) := dz_4 (kBcX3_init_4 129 rfl rfl)
theorem dX3_init_130 : decode cX3_init 130 = .ok (.iastore, 1) := dz_79 (kBcX3_init_4 130 rfl rfl)
theorem dX3_init_131 : decode cX3_init 131 = .ok (.dup, 1) := dz_89 (kBcX3_init_4 131 rfl rfl)
theorem dX3_init_132 : decode cX3_init 132 = .ok (.iconst 1, 1) := dz_4 (kBcX3_init_4 132 rfl rfl)
theorem dX3_init_133 : decode cX3_init 133 = .ok (.iconst 1, 1) := dz_4 (kBcX3_init_4 133 rfl rfl)
theorem dX3_init_134 : decode cX3_init 134 = .ok (.iastore, 1) := dz_79 (kBcX3_init_4 134 rfl rfl)
theorem dX3_init_135 : decode cX3_init 135 = .ok (.aastore, 1) := dz_83 (kBcX3_init_4 135 rfl rfl)
theorem dX3_init_136 : decode cX3_init 136 = .ok (.putfield 18, 3) := dz_181 (kBcX3_init_4 136 rfl rfl) (kBcX3_init_4 137 rfl rfl) (kBcX3_init_4 138 rfl rfl) rfl
theorem dX3_init_139 : decode cX3_init 139 = .ok (.aload_n 0, 1) := dz_42 (kBcX3_init_4 139 rfl rfl)
theorem dX3_init_140 : decode cX3_init 140 = .ok (.iconst 4, 1) := dz_7 (kBcX3_init_4 140 rfl rfl)
theorem dX3_init_141 : decode cX3_init 141 = .ok (.anewarray 7, 3) := dz_189 (kBcX3_init_4 141 rfl rfl) (kBcX3_init_4 142 rfl rfl) (kBcX3_init_4 143 rfl rfl) rfl
theorem dX3_init_144 : decode cX3_init 144 = .ok (.dup, 1) := dz_89 (kBcX3_init_4 144 rfl rfl)
theorem dX3_init_145 : decode cX3_init 145 = .ok (.iconst 0, 1) := dz_3 (kBcX3_init_4 145 rfl rfl)
theorem dX3_init_146 : decode cX3_init 146 = .ok (.iconst 3, 1) := dz_6 (kBcX3_init_4 146 rfl rfl)
theorem dX3_init_147 : decode cX3_init 147 = .ok (.newarray .int, 2) := by decide +kernel
theorem dX3_init_149 : decode cX3_init 149 = .ok (.dup, 1) := dz_89 (kBcX3_init_4 149 rfl rfl)
theorem dX3_init_150 : decode cX3_init 150 = .ok (.iconst 0, 1) := dz_3 (kBcX3_init_4 150 rfl rfl)
theorem dX3_init_151 : decode cX3_init 151 = .ok (.iconst 0, 1) := dz_3 (kBcX3_init_4 151 rfl rfl)
theorem dX3_init_152 : decode cX3_init 152 = .ok (.iastore, 1) := dz_79 (kBcX3_init_4 152 rfl rfl)
theorem dX3_init_153 : decode cX3_init 153 = .ok (.dup, 1) := dz_89 (kBcX3_init_4 153 rfl rfl)
theorem dX3_init_154 : decode cX3_init 154 = .ok (.iconst 1, 1) := dz_4 (kBcX3_init_4 154 rfl rfl)
theorem dX3_init_155 : decode cX3_init 155 = .ok (.iconst 1, 1) := dz_4 (kBcX3_init_4 155 rfl rfl)
theorem dX3_init_156 : decode cX3_init 156 = .ok (.iastore, 1) := dz_79 (kBcX3_init_4 156 rfl rfl)
theorem dX3_init_157 : decode cX3_init 157 = .ok (.dup, 1) := dz_89 (kBcX3_init_4 157 rfl rfl)
theorem dX3_init_158 : decode cX3_init 158 = .ok (.iconst 2, 1) := dz_5 (kBcX3_init_4 158 rfl rfl)
theorem dX3_init_159 : decode cX3_init 159 = .ok (.iconst 1, 1) := dz_4 (kBcX3_init_4 159 rfl rfl)
theorem dX3_init_160 : decode cX3_init 160 = .ok (.iastore, 1) := dz_79 (kBcX3_init_5 160 rfl rfl)
theorem dX3_init_161 : decode cX3_init 161 = .ok (.aastore, 1) := dz_83 (kBcX3_init_5 161 rfl rfl)
theorem dX3_init_162 : decode cX3_init 162 = .ok (.dup, 1) := dz_89 (kBcX3_init_5 162 rfl rfl)
theorem dX3_init_163 : decode cX3_init 163 = .ok (.iconst 1, 1) := dz_4 (kBcX3_init_5 163 rfl rfl)
theorem dX3_init_164 : decode cX3_init 164 = .ok (.iconst 3, 1) := dz_6 (kBcX3_init_5 164 rfl rfl)
theorem dX3_init_165 : decode cX3_init 165 = .ok (.newarray .int, 2) := by decide +kernel
theorem dX3_init_167 : decode cX3_init 167 = .ok (.dup, 1) := dz_89 (kBcX3_init_5 167 rfl rfl)
theorem dX3_init_168 : decode cX3_init 168 = .ok (.iconst 0, 1) := dz_3 (kBcX3_init_5 168 rfl rfl)
theorem dX3_init_169 : decode cX3_init 169 = .ok (.iconst 0, 1) := dz_3 (kBcX3_init_5 169 rfl rfl)
theorem dX3_init_170 : decode cX3_init 170 = .ok (.iastore, 1) := dz_79 (kBcX3_init_5 170 rfl rfl)
theorem dX3_init_171 : decode cX3_init 171 = .ok (.dup, 1) := dz_89 (kBcX3_init_5 171 rfl rfl)
theorem dX3_init_172 : decode cX3_init 172 = .ok (.iconst 1, 1) := dz_4 (kBcX3_init_5 172 rfl rfl)
theorem dX3_init_173 : decode cX3_init 173 = .ok (.iconst 1, 1) := dz_4 (kBcX3_init_5 173 rfl rfl)
theorem dX3_init_174 : decode cX3_init 174 = .ok (.iastore, 1) := dz_79 (kBcX3_init_5 174 rfl rfl)
theorem dX3_init_175 : decode cX3_init 175 = .ok (.dup, 1) := dz_89 (kBcX3_init_5 175 rfl rfl)
theorem dX3_init_176 : decode cX3_init 176 = .ok (.iconst 2, 1) := dz_5 (kBcX3_init_5 176 rfl rfl)
theorem dX3_init_177 : decode cX3_init 177 = .ok (.iconst 1, 1) := dz_4 (kBcX3_init_5 177 rfl rfl)
theorem dX3_init_178 : decode cX3_init 178 = .ok (.iastore, 1) := dz_79 (kBcX3_init_5 178 rfl rfl)
theorem dX3_init_179 : decode cX3_init 179 = .ok (.aastore, 1) := dz_83 (kBcX3_init_5 179 rfl rfl)
theorem dX3_init_180 : decode cX3_init 180 = .ok (.dup, 1) := dz_89 (kBcX3_init_5 180 rfl rfl)
theorem dX3_init_181 : decode cX3_init 181 = .ok (.iconst 2, 1) := dz_5 (kBcX3_init_5 181 rfl rfl)
theorem dX3_init_182 : decode cX3_init 182 = .ok (.iconst 3, 1) := dz_6 (kBcX3_init_5 182 rfl rfl)
theorem dX3_init_183 : decode cX3_init 183 = .ok (.newarray .int, 2) := by decide +kernel
theorem dX3_init_185 : decode cX3_init 185 = .ok (.dup, 1) := dz_89 (kBcX3_init_5 185 rfl rfl)
theorem dX3_init_186 : decode cX3_init 186 = .ok (.iconst 0, 1) := dz_3 (kBcX3_init_5 186 rfl rfl)
theorem dX3_init_187 : decode cX3_init 187 = .ok (.iconst 0, 1) := dz_3 (kBcX3_init_5 187 rfl rfl)
theorem dX3_init_188 : decode cX3_init 188 = .ok (.iastore, 1) := dz_79 (kBcX3_init_5 188 rfl rfl)
theorem dX3_init_189 : decode cX3_init 189 = .ok (.dup, 1) := dz_89 (kBcX3_init_5 189 rfl rfl)
theorem dX3_init_190 : decode cX3_init 190 = .ok (.iconst 1, 1) := dz_4 (kBcX3_init_5 190 rfl rfl)
theorem dX3_init_191 : decode cX3_init 191 = .ok (.iconst 1, 1) := dz_4 (kBcX3_init_5 191 rfl rfl)
theorem dX3_init_192 : decode cX3_init 192 = .ok (.iastore, 1) := dz_79 (kBcX3_init_6 192 rfl rfl)
theorem dX3_init_193 : decode cX3_init 193 = .ok (.dup, 1) := dz_89 (kBcX3_init_6 193 rfl rfl)
theorem dX3_init_194 : decode cX3_init 194 = .ok (.iconst 2, 1) := dz_5 (kBcX3_init_6 194 rfl rfl)
theorem dX3_init_195 : decode cX3_init 195 = .ok (.iconst 1, 1) := dz_4 (kBcX3_init_6 195 rfl rfl)
theorem dX3_init_196 : decode cX3_init 196 = .ok (.iastore, 1) := dz_79 (kBcX3_init_6 196 rfl rfl)
theorem dX3_init_197 : decode cX3_init 197 = .ok (.aastore, 1) := dz_83 (kBcX3_init_6 197 rfl rfl)
theorem dX3_init_198 : decode cX3_init 198 = .ok (.dup, 1) := dz_89 (kBcX3_init_6 198 rfl rfl)
theorem dX3_init_199 : decode cX3_init 199 = .ok (.iconst 3, 1) := dz_6 (kBcX3_init_6 199 rfl rfl)
theorem dX3_init_200 : decode cX3_init 200 = .ok (.iconst 3, 1) := dz_6 (kBcX3_init_6 200 rfl rfl)
theorem dX3_init_201 : decode cX3_init 201 = .ok (.newarray .int, 2) := by decide +kernel
theorem dX3_init_203 : decode cX3_init 203 = .ok (.dup, 1) := dz_89 (kBcX3_init_6 203 rfl rfl)
theorem dX3_init_204 : decode cX3_init 204 = .ok (.iconst 0, 1) := dz_3 (kBcX3_init_6 204 rfl rfl)
theorem dX3_init_205 : decode cX3_init 205 = .ok (.iconst 0, 1) := dz_3 (kBcX3_init_6 205 rfl rfl)
theorem dX3_init_206 : decode cX3_init 206 = .ok (.iastore, 1) := dz_79 (kBcX3_init_6 206 rfl rfl)
theorem dX3_init_207 : decode cX3_init 207 = .ok (.dup, 1) := dz_89 (kBcX3_init_6 207 rfl rfl)
theorem dX3_init_208 : decode cX3_init 208 = .ok (.iconst 1, 1) := dz_4 (kBcX3_init_6 208 rfl rfl)
theorem dX3_init_209 : decode cX3_init 209 = .ok (.iconst 1, 1) := dz_4 (kBcX3_init_6 209 rfl rfl)
theorem dX3_init_210 : decode cX3_init 210 = .ok (.iastore, 1) := dz_79 (kBcX3_init_6 210 rfl rfl)
theorem dX3_init_211 : decode cX3_init 211 = .ok (.dup, 1) := dz_89 (kBcX3_init_6 211 rfl rfl)
theorem dX3_init_212 : decode cX3_init 212 = .ok (.iconst 2, 1) := dz_5 (kBcX3_init_6 212 rfl rfl)
theorem dX3_init_213 : decode cX3_init 213 = .ok (.iconst 1, 1) := dz_4 (kBcX3_init_6 213 rfl rfl)
theorem dX3_init_214 : decode cX3_init 214 = .ok (.iastore, 1) := dz_79 (kBcX3_init_6 214 rfl rfl)
theorem dX3_init_215 : decode cX3_init 215 = .ok (.aastore, 1) := dz_83 (kBcX3_init_6 215 rfl rfl)
theorem dX3_init_216 : decode cX3_init 216 = .ok (.putfield 21, 3) := dz_181 (kBcX3_init_6 216 rfl rfl) (kBcX3_init_6 217 rfl rfl) (kBcX3_init_6 218 rfl rfl) rfl
theorem dX3_init_219 : decode cX3_init 219 = .ok (.return_, 1) := dz_177 (kBcX3_init_6 219 rfl rfl)
def kCcX3_thrown_0 : List Nat := [42, 180, 0, 24, 172]
theorem kRcX3_thrown_eq : cX3_thrown.data.toList.map UInt8.toNat = kCcX3_thrown_0 := by decide +kernel
theorem dX3_thrown_0 : decode cX3_thrown 0 = .ok (.aload_n 0, 1) := dz_42 (kin0 (p := 0) kRcX3_thrown_eq rfl)
theorem dX3_thrown_1 : decode cX3_thrown 1 = .ok (.getfield 24, 3) := dz_180 (kin0 (p := 1) kRcX3_thrown_eq rfl) (kin0 (p := 2) kRcX3_thrown_eq rfl) (kin0 (p := 3) kRcX3_thrown_eq rfl) rfl
theorem dX3_thrown_4 : decode cX3_thrown 4 = .ok (.ireturn, 1) := dz_172 (kin0 (p := 4) kRcX3_thrown_eq rfl)
def kCcX3_isIn_0 : List Nat := [30, 32, 148, 155, 0, 14, 30, 22, 4, 148, 157, 0, 7, 4, 167, 0, 4, 3, 172]
theorem kRcX3_isIn_eq : cX3_isIn.data.toList.map UInt8.toNat = kCcX3_isIn_0 := by decide +kernel
theorem dX3_isIn_0 : decode cX3_isIn 0 = .ok (.lload_n 0, 1) := dz_30 (kin0 (p := 0) kRcX3_isIn_eq rfl)
theorem dX3_isIn_1 : decode cX3_isIn 1 = .ok (.lload_n 2, 1) := dz_32 (kin0 (p := 1) kRcX3_isIn_eq rfl)
theorem dX3_isIn_2 : decode cX3_isIn 2 = .ok (.lcmp, 1) := dz_148 (kin0 (p := 2) kRcX3_isIn_eq rfl)
theorem dX3_isIn_3 : decode cX3_isIn 3 = .ok (.ifCond .lt 14, 3) := dz_155 (kin0 (p := 3) kRcX3_isIn_eq rfl) (kin0 (p := 4) kRcX3_isIn_eq rfl) (kin0 (p := 5) kRcX3_isIn_eq rfl) rfl
theorem dX3_isIn_6 : decode cX3_isIn 6 = .ok (.lload_n 0, 1) := dz_30 (kin0 (p := 6) kRcX3_isIn_eq rfl)
theorem dX3_isIn_7 : decode cX3_isIn 7 = .ok (.lload 4, 2) := dz_22 (kin0 (p := 7) kRcX3_isIn_eq rfl) (kin0 (p := 8) kRcX3_isIn_eq rfl)
theorem dX3_isIn_9 : decode cX3_isIn 9 = .ok (.lcmp, 1) := dz_148 (kin0 (p := 9) kRcX3_isIn_eq rfl)
theorem dX3_isIn_10 : decode cX3_isIn 10 = .ok (.ifCond .gt 7, 3) := dz_157 (kin0 (p := 10) kRcX3_isIn_eq rfl) (kin0 (p := 11) kRcX3_isIn_eq rfl) (kin0 (p := 12) kRcX3_isIn_eq rfl) rfl
theorem dX3_isIn_13 : decode cX3_isIn 13 = .ok (.iconst 1, 1) := dz_4 (kin0 (p := 13) kRcX3_isIn_eq rfl)
theorem dX3_isIn_14 : decode cX3_isIn 14 = .ok (.goto 4, 3) := dz_167 (kin0 (p := 14) kRcX3_isIn_eq rfl) (kin0 (p := 15) kRcX3_isIn_eq rfl) (kin0 (p := 16) kRcX3_isIn_eq rfl) rfl
theorem dX3_isIn_17 : decode cX3_isIn 17 = .ok (.iconst 0, 1) := dz_3 (kin0 (p := 17) kRcX3_isIn_eq rfl)
theorem dX3_isIn_18 : decode cX3_isIn 18 = .ok (.ireturn, 1) := dz_172 (kin0 (p := 18) kRcX3_isIn_eq rfl)
def kCcX3_bit_0 : List Nat := [26, 153, 0, 7, 4, 167, 0, 4, 3, 172]
theorem kRcX3_bit_eq : cX3_bit.data.toList.map UInt8.toNat = kCcX3_bit_0 := by decide +kernel
theorem dX3_bit_0 : decode cX3_bit 0 = .ok (.iload_n 0, 1) := dz_26 (kin0 (p := 0) kRcX3_bit_eq rfl)
theorem dX3_bit_1 : decode cX3_bit 1 = .ok (.ifCond .eq 7, 3) := dz_153 (kin0 (p := 1) kRcX3_bit_eq rfl) (kin0 (p := 2) kRcX3_bit_eq rfl) (kin0 (p := 3) kRcX3_bit_eq rfl) rfl
theorem dX3_bit_4 : decode cX3_bit 4 = .ok (.iconst 1, 1) := dz_4 (kin0 (p := 4) kRcX3_bit_eq rfl)
theorem dX3_bit_5 : decode cX3_bit 5 = .ok (.goto 4, 3) := dz_167 (kin0 (p := 5) kRcX3_bit_eq rfl) (kin0 (p := 6) kRcX3_bit_eq rfl) (kin0 (p := 7) kRcX3_bit_eq rfl) rfl
theorem dX3_bit_8 : decode cX3_bit 8 = .ok (.iconst 0, 1) := dz_3 (kin0 (p := 8) kRcX3_bit_eq rfl)
theorem dX3_bit_9 : decode cX3_bit 9 = .ok (.ireturn, 1) := dz_172 (kin0 (p := 9) kRcX3_bit_eq rfl)
def kCcX3_fails_0 : List Nat := [42, 27, 153, 0, 7, 4, 167, 0, 12, 28, 153, 0, 7, 5, 167, 0, 4, 3, 181, 0, 24, 42, 180, 0, 24, 158, 0, 7, 4, 167, 0, 4]
def kCcX3_fails_1 : List Nat := [3, 172]
def kRcX3_fails_2 : List Nat := []
def kRcX3_fails_1 : List Nat := kCcX3_fails_1 ++ kRcX3_fails_2
def kRcX3_fails_0 : List Nat := kCcX3_fails_0 ++ kRcX3_fails_1
theorem kRcX3_fails_eq : cX3_fails.data.toList.map UInt8.toNat = kRcX3_fails_0 := by decide +kernel
theorem katcX3_fails_0 (i : Nat) : (cX3_fails.data.toList.map UInt8.toNat)[0 + i]? = kRcX3_fails_0[i]? := by rw [kRcX3_fails_eq, Nat.zero_add]
theorem katcX3_fails_1 : ∀ i : Nat, (cX3_fails.data.toList.map UInt8.toNat)[32 + i]? = kRcX3_fails_1[i]? := kstep katcX3_fails_0 (C := kCcX3_fails_0) rfl rfl
theorem kBcX3_fails_0 {b : Nat} (p : Nat) (hp : Nat.ble 0 p = true) (h : kCcX3_fails_0[p - 0]? = some b) : kb cX3_fails p b := kin katcX3_fails_0 rfl hp h
theorem kBcX3_fails_1 {b : Nat} (p : Nat) (hp : Nat.ble 32 p = true) (h : kCcX3_fails_1[p - 32]? = some b) : kb cX3_fails p b := kin katcX3_fails_1 rfl hp h
theorem dX3_fails_0 : decode cX3_fails 0 = .ok (.aload_n 0, 1) := dz_42 (kBcX3_fails_0 0 rfl rfl)
theorem dX3_fails_1 : decode cX3_fails 1 = .ok (.iload_n 1, 1) := dz_27 (kBcX3_fails_0 1 rfl rfl)
theorem dX3_fails_2 : decode cX3_fails 2 = .ok (.ifCond .eq 7, 3) := dz_153 (kBcX3_fails_0 2 rfl rfl) (kBcX3_fails_0 3 rfl rfl) (kBcX3_fails_0 4 rfl rfl) rfl
theorem dX3_fails_5 : decode cX3_fails 5 = .ok (.iconst 1, 1) := dz_4 (kBcX3_fails_0 5 rfl rfl)
theorem dX3_fails_6 : decode cX3_fails 6 = .ok (.goto 12, 3) := dz_167 (kBcX3_fails_0 6 rfl rfl) (kBcX3_fails_0 7 rfl rfl) (kBcX3_fails_0 8 rfl rfl) rfl
theorem dX3_fails_9 : decode cX3_fails 9 = .ok (.iload_n 2, 1) := dz_28 (kBcX3_fails_0 9 rfl rfl)
theorem dX3_fails_10 : decode cX3_fails 10 = .ok (.ifCond .eq 7, 3) := dz_153 (kBcX3_fails_0 10 rfl rfl) (kBcX3_fails_0 11 rfl rfl) (kBcX3_fails_0 12 rfl rfl) rfl
theorem dX3_fails_13 : decode cX3_fails 13 = .ok (.iconst 2, 1) := dz_5 (kBcX3_fails_0 13 rfl rfl)
theorem dX3_fails_14 : decode cX3_fails 14 = .ok (.goto 4, 3) := dz_167 (kBcX3_fails_0 14 rfl rfl) (kBcX3_fails_0 15 rfl rfl) (kBcX3_fails_0 16 rfl rfl) rfl
theorem dX3_fails_17 : decode cX3_fails 17 = .ok (.iconst 0, 1) := dz_3 (kBcX3_fails_0 17 rfl rfl)
theorem dX3_fails_18 : decode cX3_fails 18 = .ok (.putfield 24, 3) := dz_181 (kBcX3_fails_0 18 rfl rfl) (kBcX3_fails_0 19 rfl rfl) (kBcX3_fails_0 20 rfl rfl) rfl
theorem dX3_fails_21 : decode cX3_fails 21 = .ok (.aload_n 0, 1) := dz_42 (kBcX3_fails_0 21 rfl rfl)
theorem dX3_fails_22 : decode cX3_fails 22 = .ok (.getfield 24, 3) := dz_180 (kBcX3_fails_0 22 rfl rfl) (kBcX3_fails_0 23 rfl rfl) (kBcX3_fails_0 24 rfl rfl) rfl
theorem dX3_fails_25 : decode cX3_fails 25 = .ok (.ifCond .le 7, 3) := dz_158 (kBcX3_fails_0 25 rfl rfl) (kBcX3_fails_0 26 rfl rfl) (kBcX3_fails_0 27 rfl rfl) rfl
theorem dX3_fails_28 : decode cX3_fails 28 = .ok (.iconst 1, 1) := dz_4 (kBcX3_fails_0 28 rfl rfl)
theorem dX3_fails_29 : decode cX3_fails 29 = .ok (.goto 4, 3) := dz_167 (kBcX3_fails_0 29 rfl rfl) (kBcX3_fails_0 30 rfl rfl) (kBcX3_fails_0 31 rfl rfl) rfl
theorem dX3_fails_32 : decode cX3_fails 32 = .ok (.iconst 0, 1) := dz_3 (kBcX3_fails_1 32 rfl rfl)
theorem dX3_fails_33 : decode cX3_fails 33 = .ok (.ireturn, 1) := dz_172 (kBcX3_fails_1 33 rfl rfl)
def kCcX3_isNo_0 : List Nat := [26, 133, 9, 20, 0, 28, 184, 0, 30, 154, 0, 7, 4, 167, 0, 4, 3, 172]
theorem kRcX3_isNo_eq : cX3_isNo.data.toList.map UInt8.toNat = kCcX3_isNo_0 := by decide +kernel
theorem dX3_isNo_0 : decode cX3_isNo 0 = .ok (.iload_n 0, 1) := dz_26 (kin0 (p := 0) kRcX3_isNo_eq rfl)
theorem dX3_isNo_1 : decode cX3_isNo 1 = .ok (.i2l, 1) := dz_133 (kin0 (p := 1) kRcX3_isNo_eq rfl)
theorem dX3_isNo_2 : decode cX3_isNo 2 = .ok (.lconst 0, 1) := dz_9 (kin0 (p := 2) kRcX3_isNo_eq rfl)
theorem dX3_isNo_3 : decode cX3_isNo 3 = .ok (.ldc2_w 28, 3) := dz_20 (kin0 (p := 3) kRcX3_isNo_eq rfl) (kin0 (p := 4) kRcX3_isNo_eq rfl) (kin0 (p := 5) kRcX3_isNo_eq rfl) rfl
theorem dX3_isNo_6 : decode cX3_isNo 6 = .ok (.invokestatic 30, 3) := dz_184 (kin0 (p := 6) kRcX3_isNo_eq rfl) (kin0 (p := 7) kRcX3_isNo_eq rfl) (kin0 (p := 8) kRcX3_isNo_eq rfl) rfl
theorem dX3_isNo_9 : decode cX3_isNo 9 = .ok (.ifCond .ne 7, 3) := dz_154 (kin0 (p := 9) kRcX3_isNo_eq rfl) (kin0 (p := 10) kRcX3_isNo_eq rfl) (kin0 (p := 11) kRcX3_isNo_eq rfl) rfl
theorem dX3_isNo_12 : decode cX3_isNo 12 = .ok (.iconst 1, 1) := dz_4 (kin0 (p := 12) kRcX3_isNo_eq rfl)
theorem dX3_isNo_13 : decode cX3_isNo 13 = .ok (.goto 4, 3) := dz_167 (kin0 (p := 13) kRcX3_isNo_eq rfl) (kin0 (p := 14) kRcX3_isNo_eq rfl) (kin0 (p := 15) kRcX3_isNo_eq rfl) rfl
theorem dX3_isNo_16 : decode cX3_isNo 16 = .ok (.iconst 0, 1) := dz_3 (kin0 (p := 16) kRcX3_isNo_eq rfl)
theorem dX3_isNo_17 : decode cX3_isNo 17 = .ok (.ireturn, 1) := dz_172 (kin0 (p := 17) kRcX3_isNo_eq rfl)
def kCcX3_isNoYear_0 : List Nat := [30, 20, 0, 34, 20, 0, 36, 184, 0, 30, 154, 0, 7, 4, 167, 0, 4, 3, 172]
theorem kRcX3_isNoYear_eq : cX3_isNoYear.data.toList.map UInt8.toNat = kCcX3_isNoYear_0 := by decide +kernel
theorem dX3_isNoYear_0 : decode cX3_isNoYear 0 = .ok (.lload_n 0, 1) := dz_30 (kin0 (p := 0) kRcX3_isNoYear_eq rfl)
theorem dX3_isNoYear_1 : decode cX3_isNoYear 1 = .ok (.ldc2_w 34, 3) := dz_20 (kin0 (p := 1) kRcX3_isNoYear_eq rfl) (kin0 (p := 2) kRcX3_isNoYear_eq rfl) (kin0 (p := 3) kRcX3_isNoYear_eq rfl) rfl
theorem dX3_isNoYear_4 : decode cX3_isNoYear 4 = .ok (.ldc2_w 36, 3) := dz_20 (kin0 (p := 4) kRcX3_isNoYear_eq rfl) (kin0 (p := 5) kRcX3_isNoYear_eq rfl) (kin0 (p := 6) kRcX3_isNoYear_eq rfl) rfl
theorem dX3_isNoYear_7 : decode cX3_isNoYear 7 = .ok (.invokestatic 30, 3) := dz_184 (kin0 (p := 7) kRcX3_isNoYear_eq rfl) (kin0 (p := 8) kRcX3_isNoYear_eq rfl) (kin0 (p := 9) kRcX3_isNoYear_eq rfl) rfl
theorem dX3_isNoYear_10 : decode cX3_isNoYear 10 = .ok (.ifCond .ne 7, 3) := dz_154 (kin0 (p := 10) kRcX3_isNoYear_eq rfl) (kin0 (p := 11) kRcX3_isNoYear_eq rfl) (kin0 (p := 12) kRcX3_isNoYear_eq rfl) rfl
theorem dX3_isNoYear_13 : decode cX3_isNoYear 13 = .ok (.iconst 1, 1) := dz_4 (kin0 (p := 13) kRcX3_isNoYear_eq rfl)
theorem dX3_isNoYear_14 : decode cX3_isNoYear 14 = .ok (.goto 4, 3) := dz_167 (kin0 (p := 14) kRcX3_isNoYear_eq rfl) (kin0 (p := 15) kRcX3_isNoYear_eq rfl) (kin0 (p := 16) kRcX3_isNoYear_eq rfl) rfl
theorem dX3_isNoYear_17 : decode cX3_isNoYear 17 = .ok (.iconst 0, 1) := dz_3 (kin0 (p := 17) kRcX3_isNoYear_eq rfl)
theorem dX3_isNoYear_18 : decode cX3_isNoYear 18 = .ok (.ireturn, 1) := dz_172 (kin0 (p := 18) kRcX3_isNoYear_eq rfl)
def kCcX3_isNoMonth_0 : List Nat := [26, 133, 10, 20, 0, 38, 184, 0, 30, 154, 0, 7, 4, 167, 0, 4, 3, 172]
theorem kRcX3_isNoMonth_eq : cX3_isNoMonth.data.toList.map UInt8.toNat = kCcX3_isNoMonth_0 := by decide +kernel
theorem dX3_isNoMonth_0 : decode cX3_isNoMonth 0 = .ok (.iload_n 0, 1) := dz_26 (kin0 (p := 0) kRcX3_isNoMonth_eq rfl)
theorem dX3_isNoMonth_1 : decode cX3_isNoMonth 1 = .ok (.i2l, 1) := dz_133 (kin0 (p := 1) kRcX3_isNoMonth_eq rfl)
theorem dX3_isNoMonth_2 : decode cX3_isNoMonth 2 = .ok (.lconst 1, 1) := dz_10 (kin0 (p := 2) kRcX3_isNoMonth_eq rfl)
theorem dX3_isNoMonth_3 : decode cX3_isNoMonth 3 = .ok (.ldc2_w 38, 3) := dz_20 (kin0 (p := 3) kRcX3_isNoMonth_eq rfl) (kin0 (p := 4) kRcX3_isNoMonth_eq rfl) (kin0 (p := 5) kRcX3_isNoMonth_eq rfl) rfl
theorem dX3_isNoMonth_6 : decode cX3_isNoMonth 6 = .ok (.invokestatic 30, 3) := dz_184 (kin0 (p := 6) kRcX3_isNoMonth_eq rfl) (kin0 (p := 7) kRcX3_isNoMonth_eq rfl) (kin0 (p := 8) kRcX3_isNoMonth_eq rfl) rfl
theorem dX3_isNoMonth_9 : decode cX3_isNoMonth 9 = .ok (.ifCond .ne 7, 3) := dz_154 (kin0 (p := 9) kRcX3_isNoMonth_eq rfl) (kin0 (p := 10) kRcX3_isNoMonth_eq rfl) (kin0 (p := 11) kRcX3_isNoMonth_eq rfl) rfl
theorem dX3_isNoMonth_12 : decode cX3_isNoMonth 12 = .ok (.iconst 1, 1) := dz_4 (kin0 (p := 12) kRcX3_isNoMonth_eq rfl)
theorem dX3_isNoMonth_13 : decode cX3_isNoMonth 13 = .ok (.goto 4, 3) := dz_167 (kin0 (p := 13) kRcX3_isNoMonth_eq rfl) (kin0 (p := 14) kRcX3_isNoMonth_eq rfl) (kin0 (p := 15) kRcX3_isNoMonth_eq rfl) rfl
theorem dX3_isNoMonth_16 : decode cX3_isNoMonth 16 = .ok (.iconst 0, 1) := dz_3 (kin0 (p := 16) kRcX3_isNoMonth_eq rfl)
theorem dX3_isNoMonth_17 : decode cX3_isNoMonth 17 = .ok (.ireturn, 1) := dz_172 (kin0 (p := 17) kRcX3_isNoMonth_eq rfl)
def kCcX3_isMultiple_0 : List Nat := [30, 30, 28, 133, 109, 28, 133, 105, 101, 9, 148, 154, 0, 7, 4, 167, 0, 4, 3, 172]
theorem kRcX3_isMultiple_eq : cX3_isMultiple.data.toList.map UInt8.toNat = kCcX3_isMultiple_0 := by decide +kernel
theorem dX3_isMultiple_0 : decode cX3_isMultiple 0 = .ok (.lload_n 0, 1) := dz_30 (kin0 (p := 0) kRcX3_isMultiple_eq rfl)
theorem dX3_isMultiple_1 : decode cX3_isMultiple 1 = .ok (.lload_n 0, 1) := dz_30 (kin0 (p := 1) kRcX3_isMultiple_eq rfl)
theorem dX3_isMultiple_2 : decode cX3_isMultiple 2 = .ok (.iload_n 2, 1) := dz_28 (kin0 (p := 2) kRcX3_isMultiple_eq rfl)
theorem dX3_isMultiple_3 : decode cX3_isMultiple 3 = .ok (.i2l, 1) := dz_133 (kin0 (p := 3) kRcX3_isMultiple_eq rfl)
theorem dX3_isMultiple_4 : decode cX3_isMultiple 4 = .ok (.ldiv, 1) := dz_109 (kin0 (p := 4) kRcX3_isMultiple_eq rfl)
theorem dX3_isMultiple_5 : decode cX3_isMultiple 5 = .ok (.iload_n 2, 1) := dz_28 (kin0 (p := 5) kRcX3_isMultiple_eq rfl)
theorem dX3_isMultiple_6 : decode cX3_isMultiple 6 = .ok (.i2l, 1) := dz_133 (kin0 (p := 6) kRcX3_isMultiple_eq rfl)
theorem dX3_isMultiple_7 : decode cX3_isMultiple 7 = .ok (.lmul, 1) := dz_105 (kin0 (p := 7) kRcX3_isMultiple_eq rfl)
theorem dX3_isMultiple_8 : decode cX3_isMultiple 8 = .ok (.lsub, 1) := dz_101 (kin0 (p := 8) kRcX3_isMultiple_eq rfl)
theorem dX3_isMultiple_9 : decode cX3_isMultiple 9 = .ok (.lconst 0, 1) := dz_9 (kin0 (p := 9) kRcX3_isMultiple_eq rfl)
theorem dX3_isMultiple_10 : decode cX3_isMultiple 10 = .ok (.lcmp, 1) := dz_148 (kin0 (p := 10) kRcX3_isMultiple_eq rfl)
theorem dX3_isMultiple_11 : decode cX3_isMultiple 11 = .ok (.ifCond .ne 7, 3) := dz_154 (kin0 (p := 11) kRcX3_isMultiple_eq rfl) (kin0 (p := 12) kRcX3_isMultiple_eq rfl) (kin0 (p := 13) kRcX3_isMultiple_eq rfl) rfl
theorem dX3_isMultiple_14 : decode cX3_isMultiple 14 = .ok (.iconst 1, 1) := dz_4 (kin0 (p := 14) kRcX3_isMultiple_eq rfl)
theorem dX3_isMultiple_15 : decode cX3_isMultiple 15 = .ok (.goto 4, 3) := dz_167 (kin0 (p := 15) kRcX3_isMultiple_eq rfl) (kin0 (p := 16) kRcX3_isMultiple_eq rfl) (kin0 (p := 17) kRcX3_isMultiple_eq rfl) rfl
theorem dX3_isMultiple_18 : decode cX3_isMultiple 18 = .ok (.iconst 0, 1) := dz_3 (kin0 (p := 18) kRcX3_isMultiple_eq rfl)
theorem dX3_isMultiple_19 : decode cX3_isMultiple 19 = .ok (.ireturn, 1) := dz_172 (kin0 (p := 19) kRcX3_isMultiple_eq rfl)
def kCcX3_isLeapYear_0 : List Nat := [30, 17, 1, 144, 184, 0, 40, 154, 0, 20, 30, 7, 184, 0, 40, 153, 0, 16, 30, 16, 100, 184, 0, 40, 154, 0, 7, 4, 167, 0, 4, 3]
def kCcX3_isLeapYear_1 : List Nat := [172]
def kRcX3_isLeapYear_2 : List Nat := []
def kRcX3_isLeapYear_1 : List Nat := kCcX3_isLeapYear_1 ++ kRcX3_isLeapYear_2
def kRcX3_isLeapYear_0 : List Nat := kCcX3_isLeapYear_0 ++ kRcX3_isLeapYear_1
theorem kRcX3_isLeapYear_eq : cX3_isLeapYear.data.toList.map UInt8.toNat = kRcX3_isLeapYear_0 := by decide +kernel
theorem katcX3_isLeapYear_0 (i : Nat) : (cX3_isLeapYear.data.toList.map UInt8.toNat)[0 + i]? = kRcX3_isLeapYear_0[i]? := by rw [kRcX3_isLeapYear_eq, Nat.zero_add]
theorem katcX3_isLeapYear_1 : ∀ i : Nat, (cX3_isLeapYear.data.toList.map UInt8.toNat)[32 + i]? = kRcX3_isLeapYear_1[i]? := kstep katcX3_isLeapYear_0 (C := kCcX3_isLeapYear_0) rfl rfl
theorem kBcX3_isLeapYear_0 {b : Nat} (p : Nat) (hp : Nat.ble 0 p = true) (h : kCcX3_isLeapYear_0[p - 0]? = some b) : kb cX3_isLeapYear p b := kin katcX3_isLeapYear_0 rfl hp h
theorem kBcX3_isLeapYear_1 {b : Nat} (p : Nat) (hp : Nat.ble 32 p = true) (h : kCcX3_isLeapYear_1[p - 32]? = some b) : kb cX3_isLeapYear p b := kin katcX3_isLeapYear_1 rfl hp h
theorem dX3_isLeapYear_0 : decode cX3_isLeapYear 0 = .ok (.lload_n 0, 1) := dz_30 (kBcX3_isLeapYear_0 0 rfl rfl)
theorem dX3_isLeapYear_1 : decode cX3_isLeapYear 1 = .ok (.sipush 400, 3) := dz_17 (kBcX3_isLeapYear_0 1 rfl rfl) (kBcX3_isLeapYear_0 2 rfl rfl) (kBcX3_isLeapYear_0 3 rfl rfl) rfl
theorem dX3_isLeapYear_4 : decode cX3_isLeapYear 4 = .ok (.invokestatic 40, 3) := dz_184 (kBcX3_isLeapYear_0 4 rfl rfl) (kBcX3_isLeapYear_0 5 rfl rfl) (kBcX3_isLeapYear_0 6 rfl rfl) rfl
theorem dX3_isLeapYear_7 : decode cX3_isLeapYear 7 = .ok (.ifCond .ne 20, 3) := dz_154 (kBcX3_isLeapYear_0 7 rfl rfl) (kBcX3_isLeapYear_0 8 rfl rfl) (kBcX3_isLeapYear_0 9 rfl rfl) rfl
theorem dX3_isLeapYear_10 : decode cX3_isLeapYear 10 = .ok (.lload_n 0, 1) := dz_30 (kBcX3_isLeapYear_0 10 rfl rfl)
theorem dX3_isLeapYear_11 : decode cX3_isLeapYear 11 = .ok (.iconst 4, 1) := dz_7 (kBcX3_isLeapYear_0 11 rfl rfl)
theorem dX3_isLeapYear_12 : decode cX3_isLeapYear 12 = .ok (.invokestatic 40, 3) := dz_184 (kBcX3_isLeapYear_0 12 rfl rfl) (kBcX3_isLeapYear_0 13 rfl rfl) (kBcX3_isLeapYear_0 14 rfl rfl) rfl
theorem dX3_isLeapYear_15 : decode cX3_isLeapYear 15 = .ok (.ifCond .eq 16, 3) := dz_153 (kBcX3_isLeapYear_0 15 rfl rfl) (kBcX3_isLeapYear_0 16 rfl rfl) (kBcX3_isLeapYear_0 17 rfl rfl) rfl
theorem dX3_isLeapYear_18 : decode cX3_isLeapYear 18 = .ok (.lload_n 0, 1) := dz_30 (kBcX3_isLeapYear_0 18 rfl rfl)
theorem dX3_isLeapYear_19 : decode cX3_isLeapYear 19 = .ok (.bipush 100, 2) := dz_16 (kBcX3_isLeapYear_0 19 rfl rfl) (kBcX3_isLeapYear_0 20 rfl rfl) rfl
theorem dX3_isLeapYear_21 : decode cX3_isLeapYear 21 = .ok (.invokestatic 40, 3) := dz_184 (kBcX3_isLeapYear_0 21 rfl rfl) (kBcX3_isLeapYear_0 22 rfl rfl) (kBcX3_isLeapYear_0 23 rfl rfl) rfl
theorem dX3_isLeapYear_24 : decode cX3_isLeapYear 24 = .ok (.ifCond .ne 7, 3) := dz_154 (kBcX3_isLeapYear_0 24 rfl rfl) (kBcX3_isLeapYear_0 25 rfl rfl) (kBcX3_isLeapYear_0 26 rfl rfl) rfl
theorem dX3_isLeapYear_27 : decode cX3_isLeapYear 27 = .ok (.iconst 1, 1) := dz_4 (kBcX3_isLeapYear_0 27 rfl rfl)
theorem dX3_isLeapYear_28 : decode cX3_isLeapYear 28 = .ok (.goto 4, 3) := dz_167 (kBcX3_isLeapYear_0 28 rfl rfl) (kBcX3_isLeapYear_0 29 rfl rfl) (kBcX3_isLeapYear_0 30 rfl rfl) rfl
theorem dX3_isLeapYear_31 : decode cX3_isLeapYear 31 = .ok (.iconst 0, 1) := dz_3 (kBcX3_isLeapYear_0 31 rfl rfl)
theorem dX3_isLeapYear_32 : decode cX3_isLeapYear 32 = .ok (.ireturn, 1) := dz_172 (kBcX3_isLeapYear_1 32 rfl rfl)
def kCcX3_length_0 : List Nat := [28, 5, 160, 0, 15, 30, 184, 0, 44, 153, 0, 8, 16, 29, 167, 0, 10, 178, 0, 48, 28, 4, 100, 46, 172]
theorem kRcX3_length_eq : cX3_length.data.toList.map UInt8.toNat = kCcX3_length_0 := by decide +kernel
theorem dX3_length_0 : decode cX3_length 0 = .ok (.iload_n 2, 1) := dz_28 (kin0 (p := 0) kRcX3_length_eq rfl)
theorem dX3_length_1 : decode cX3_length 1 = .ok (.iconst 2, 1) := dz_5 (kin0 (p := 1) kRcX3_length_eq rfl)
theorem dX3_length_2 : decode cX3_length 2 = .ok (.if_icmp .ne 15, 3) := dz_160 (kin0 (p := 2) kRcX3_length_eq rfl) (kin0 (p := 3) kRcX3_length_eq rfl) (kin0 (p := 4) kRcX3_length_eq rfl) rfl
theorem dX3_length_5 : decode cX3_length 5 = .ok (.lload_n 0, 1) := dz_30 (kin0 (p := 5) kRcX3_length_eq rfl)
theorem dX3_length_6 : decode cX3_length 6 = .ok (.invokestatic 44, 3) := dz_184 (kin0 (p := 6) kRcX3_length_eq rfl) (kin0 (p := 7) kRcX3_length_eq rfl) (kin0 (p := 8) kRcX3_length_eq rfl) rfl
theorem dX3_length_9 : decode cX3_length 9 = .ok (.ifCond .eq 8, 3) := dz_153 (kin0 (p := 9) kRcX3_length_eq rfl) (kin0 (p := 10) kRcX3_length_eq rfl) (kin0 (p := 11) kRcX3_length_eq rfl) rfl
theorem dX3_length_12 : decode cX3_length 12 = .ok (.bipush 29, 2) := dz_16 (kin0 (p := 12) kRcX3_length_eq rfl) (kin0 (p := 13) kRcX3_length_eq rfl) rfl
theorem dX3_length_14 : decode cX3_length 14 = .ok (.goto 10, 3) := dz_167 (kin0 (p := 14) kRcX3_length_eq rfl) (kin0 (p := 15) kRcX3_length_eq rfl) (kin0 (p := 16) kRcX3_length_eq rfl) rfl
theorem dX3_length_17 : decode cX3_length 17 = .ok (.getstatic 48, 3) := dz_178 (kin0 (p := 17) kRcX3_length_eq rfl) (kin0 (p := 18) kRcX3_length_eq rfl) (kin0 (p := 19) kRcX3_length_eq rfl) rfl
theorem dX3_length_20 : decode cX3_length 20 = .ok (.iload_n 2, 1) := dz_28 (kin0 (p := 20) kRcX3_length_eq rfl)
theorem dX3_length_21 : decode cX3_length 21 = .ok (.iconst 1, 1) := dz_4 (kin0 (p := 21) kRcX3_length_eq rfl)
theorem dX3_length_22 : decode cX3_length 22 = .ok (.isub, 1) := dz_100 (kin0 (p := 22) kRcX3_length_eq rfl)
theorem dX3_length_23 : decode cX3_length 23 = .ok (.iaload, 1) := dz_46 (kin0 (p := 23) kRcX3_length_eq rfl)
theorem dX3_length_24 : decode cX3_length 24 = .ok (.ireturn, 1) := dz_172 (kin0 (p := 24) kRcX3_length_eq rfl)
def kCcX3_daysOf_0 : List Nat := [30, 184, 0, 44, 153, 0, 9, 17, 1, 110, 167, 0, 6, 17, 1, 109, 172]
theorem kRcX3_daysOf_eq : cX3_daysOf.data.toList.map UInt8.toNat = kCcX3_daysOf_0 := by decide +kernel
theorem dX3_daysOf_0 : decode cX3_daysOf 0 = .ok (.lload_n 0, 1) := dz_30 (kin0 (p := 0) kRcX3_daysOf_eq rfl)
theorem dX3_daysOf_1 : decode cX3_daysOf 1 = .ok (.invokestatic 44, 3) := dz_184 (kin0 (p := 1) kRcX3_daysOf_eq rfl) (kin0 (p := 2) kRcX3_daysOf_eq rfl) (kin0 (p := 3) kRcX3_daysOf_eq rfl) rfl
theorem dX3_daysOf_4 : decode cX3_daysOf 4 = .ok (.ifCond .eq 9, 3) := dz_153 (kin0 (p := 4) kRcX3_daysOf_eq rfl) (kin0 (p := 5) kRcX3_daysOf_eq rfl) (kin0 (p := 6) kRcX3_daysOf_eq rfl) rfl
theorem dX3_daysOf_7 : decode cX3_daysOf 7 = .ok (.sipush 366, 3) := dz_17 (kin0 (p := 7) kRcX3_daysOf_eq rfl) (kin0 (p := 8) kRcX3_daysOf_eq rfl) (kin0 (p := 9) kRcX3_daysOf_eq rfl) rfl
theorem dX3_daysOf_10 : decode cX3_daysOf 10 = .ok (.goto 6, 3) := dz_167 (kin0 (p := 10) kRcX3_daysOf_eq rfl) (kin0 (p := 11) kRcX3_daysOf_eq rfl) (kin0 (p := 12) kRcX3_daysOf_eq rfl) rfl
theorem dX3_daysOf_13 : decode cX3_daysOf 13 = .ok (.sipush 365, 3) := dz_17 (kin0 (p := 13) kRcX3_daysOf_eq rfl) (kin0 (p := 14) kRcX3_daysOf_eq rfl) (kin0 (p := 15) kRcX3_daysOf_eq rfl) rfl
theorem dX3_daysOf_16 : decode cX3_daysOf 16 = .ok (.ireturn, 1) := dz_172 (kin0 (p := 16) kRcX3_daysOf_eq rfl)
def kCcX3_rest_0 : List Nat := [30, 30, 28, 133, 109, 28, 133, 105, 101, 66, 33, 9, 148, 156, 0, 10, 33, 28, 133, 97, 167, 0, 4, 33, 136, 172]
theorem kRcX3_rest_eq : cX3_rest.data.toList.map UInt8.toNat = kCcX3_rest_0 := by decide +kernel
theorem dX3_rest_0 : decode cX3_rest 0 = .ok (.lload_n 0, 1) := dz_30 (kin0 (p := 0) kRcX3_rest_eq rfl)
theorem dX3_rest_1 : decode cX3_rest 1 = .ok (.lload_n 0, 1) := dz_30 (kin0 (p := 1) kRcX3_rest_eq rfl)
theorem dX3_rest_2 : decode cX3_rest 2 = .ok (.iload_n 2, 1) := dz_28 (kin0 (p := 2) kRcX3_rest_eq rfl)
theorem dX3_rest_3 : decode cX3_rest 3 = .ok (.i2l, 1) := dz_133 (kin0 (p := 3) kRcX3_rest_eq rfl)
theorem dX3_rest_4 : decode cX3_rest 4 = .ok (.ldiv, 1) := dz_109 (kin0 (p := 4) kRcX3_rest_eq rfl)
theorem dX3_rest_5 : decode cX3_rest 5 = .ok (.iload_n 2, 1) := dz_28 (kin0 (p := 5) kRcX3_rest_eq rfl)
theorem dX3_rest_6 : decode cX3_rest 6 = .ok (.i2l, 1) := dz_133 (kin0 (p := 6) kRcX3_rest_eq rfl)
theorem dX3_rest_7 : decode cX3_rest 7 = .ok (.lmul, 1) := dz_105 (kin0 (p := 7) kRcX3_rest_eq rfl)
theorem dX3_rest_8 : decode cX3_rest 8 = .ok (.lsub, 1) := dz_101 (kin0 (p := 8) kRcX3_rest_eq rfl)
theorem dX3_rest_9 : decode cX3_rest 9 = .ok (.lstore_n 3, 1) := dz_66 (kin0 (p := 9) kRcX3_rest_eq rfl)
theorem dX3_rest_10 : decode cX3_rest 10 = .ok (.lload_n 3, 1) := dz_33 (kin0 (p := 10) kRcX3_rest_eq rfl)
theorem dX3_rest_11 : decode cX3_rest 11 = .ok (.lconst 0, 1) := dz_9 (kin0 (p := 11) kRcX3_rest_eq rfl)
theorem dX3_rest_12 : decode cX3_rest 12 = .ok (.lcmp, 1) := dz_148 (kin0 (p := 12) kRcX3_rest_eq rfl)
theorem dX3_rest_13 : decode cX3_rest 13 = .ok (.ifCond .ge 10, 3) := dz_156 (kin0 (p := 13) kRcX3_rest_eq rfl) (kin0 (p := 14) kRcX3_rest_eq rfl) (kin0 (p := 15) kRcX3_rest_eq rfl) rfl
theorem dX3_rest_16 : decode cX3_rest 16 = .ok (.lload_n 3, 1) := dz_33 (kin0 (p := 16) kRcX3_rest_eq rfl)
theorem dX3_rest_17 : decode cX3_rest 17 = .ok (.iload_n 2, 1) := dz_28 (kin0 (p := 17) kRcX3_rest_eq rfl)
theorem dX3_rest_18 : decode cX3_rest 18 = .ok (.i2l, 1) := dz_133 (kin0 (p := 18) kRcX3_rest_eq rfl)
theorem dX3_rest_19 : decode cX3_rest 19 = .ok (.ladd, 1) := dz_97 (kin0 (p := 19) kRcX3_rest_eq rfl)
theorem dX3_rest_20 : decode cX3_rest 20 = .ok (.goto 4, 3) := dz_167 (kin0 (p := 20) kRcX3_rest_eq rfl) (kin0 (p := 21) kRcX3_rest_eq rfl) (kin0 (p := 22) kRcX3_rest_eq rfl) rfl
theorem dX3_rest_23 : decode cX3_rest 23 = .ok (.lload_n 3, 1) := dz_33 (kin0 (p := 23) kRcX3_rest_eq rfl)
theorem dX3_rest_24 : decode cX3_rest 24 = .ok (.l2i, 1) := dz_136 (kin0 (p := 24) kRcX3_rest_eq rfl)
theorem dX3_rest_25 : decode cX3_rest 25 = .ok (.ireturn, 1) := dz_172 (kin0 (p := 25) kRcX3_rest_eq rfl)
def kCcX3_floor_0 : List Nat := [30, 30, 28, 184, 0, 51, 133, 101, 28, 133, 109, 173]
theorem kRcX3_floor_eq : cX3_floor.data.toList.map UInt8.toNat = kCcX3_floor_0 := by decide +kernel
theorem dX3_floor_0 : decode cX3_floor 0 = .ok (.lload_n 0, 1) := dz_30 (kin0 (p := 0) kRcX3_floor_eq rfl)
theorem dX3_floor_1 : decode cX3_floor 1 = .ok (.lload_n 0, 1) := dz_30 (kin0 (p := 1) kRcX3_floor_eq rfl)
theorem dX3_floor_2 : decode cX3_floor 2 = .ok (.iload_n 2, 1) := dz_28 (kin0 (p := 2) kRcX3_floor_eq rfl)
theorem dX3_floor_3 : decode cX3_floor 3 = .ok (.invokestatic 51, 3) := dz_184 (kin0 (p := 3) kRcX3_floor_eq rfl) (kin0 (p := 4) kRcX3_floor_eq rfl) (kin0 (p := 5) kRcX3_floor_eq rfl) rfl
theorem dX3_floor_6 : decode cX3_floor 6 = .ok (.i2l, 1) := dz_133 (kin0 (p := 6) kRcX3_floor_eq rfl)
theorem dX3_floor_7 : decode cX3_floor 7 = .ok (.lsub, 1) := dz_101 (kin0 (p := 7) kRcX3_floor_eq rfl)
theorem dX3_floor_8 : decode cX3_floor 8 = .ok (.iload_n 2, 1) := dz_28 (kin0 (p := 8) kRcX3_floor_eq rfl)
theorem dX3_floor_9 : decode cX3_floor 9 = .ok (.i2l, 1) := dz_133 (kin0 (p := 9) kRcX3_floor_eq rfl)
theorem dX3_floor_10 : decode cX3_floor 10 = .ok (.ldiv, 1) := dz_109 (kin0 (p := 10) kRcX3_floor_eq rfl)
theorem dX3_floor_11 : decode cX3_floor 11 = .ok (.lreturn, 1) := dz_173 (kin0 (p := 11) kRcX3_floor_eq rfl)
def kCcX3_round_0 : List Nat := [4, 26, 133, 16, 12, 184, 0, 51, 96, 172]
theorem kRcX3_round_eq : cX3_round.data.toList.map UInt8.toNat = kCcX3_round_0 := by decide +kernel
theorem dX3_round_0 : decode cX3_round 0 = .ok (.iconst 1, 1) := dz_4 (kin0 (p := 0) kRcX3_round_eq rfl)
theorem dX3_round_1 : decode cX3_round 1 = .ok (.iload_n 0, 1) := dz_26 (kin0 (p := 1) kRcX3_round_eq rfl)
theorem dX3_round_2 : decode cX3_round 2 = .ok (.i2l, 1) := dz_133 (kin0 (p := 2) kRcX3_round_eq rfl)
theorem dX3_round_3 : decode cX3_round 3 = .ok (.bipush 12, 2) := dz_16 (kin0 (p := 3) kRcX3_round_eq rfl) (kin0 (p := 4) kRcX3_round_eq rfl) rfl
theorem dX3_round_5 : decode cX3_round 5 = .ok (.invokestatic 51, 3) := dz_184 (kin0 (p := 5) kRcX3_round_eq rfl) (kin0 (p := 6) kRcX3_round_eq rfl) (kin0 (p := 7) kRcX3_round_eq rfl) rfl
theorem dX3_round_8 : decode cX3_round 8 = .ok (.iadd, 1) := dz_96 (kin0 (p := 8) kRcX3_round_eq rfl)
theorem dX3_round_9 : decode cX3_round 9 = .ok (.ireturn, 1) := dz_172 (kin0 (p := 9) kRcX3_round_eq rfl)
