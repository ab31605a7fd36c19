def kCcX3_place_0 : List Nat := [28, 62, 4, 54, 4, 21, 4, 27, 162, 0, 19, 29, 26, 133, 21, 4, 184, 0, 55, 96, 62, 132, 4, 1, 167, 255, 237, 29, 172]
theorem kRcX3_place_eq : cX3_place.data.toList.map UInt8.toNat = kCcX3_place_0 := by decide +kernel
theorem dX3_place_0 : decode cX3_place 0 = .ok (.iload_n 2, 1) := dz_28 (kin0 (p := 0) kRcX3_place_eq rfl)
theorem dX3_place_1 : decode cX3_place 1 = .ok (.istore_n 3, 1) := dz_62 (kin0 (p := 1) kRcX3_place_eq rfl)
theorem dX3_place_2 : decode cX3_place 2 = .ok (.iconst 1, 1) := dz_4 (kin0 (p := 2) kRcX3_place_eq rfl)
theorem dX3_place_3 : decode cX3_place 3 = .ok (.istore 4, 2) := dz_54 (kin0 (p := 3) kRcX3_place_eq rfl) (kin0 (p := 4) kRcX3_place_eq rfl)
theorem dX3_place_5 : decode cX3_place 5 = .ok (.iload 4, 2) := dz_21 (kin0 (p := 5) kRcX3_place_eq rfl) (kin0 (p := 6) kRcX3_place_eq rfl)
theorem dX3_place_7 : decode cX3_place 7 = .ok (.iload_n 1, 1) := dz_27 (kin0 (p := 7) kRcX3_place_eq rfl)
theorem dX3_place_8 : decode cX3_place 8 = .ok (.if_icmp .ge 19, 3) := dz_162 (kin0 (p := 8) kRcX3_place_eq rfl) (kin0 (p := 9) kRcX3_place_eq rfl) (kin0 (p := 10) kRcX3_place_eq rfl) rfl
theorem dX3_place_11 : decode cX3_place 11 = .ok (.iload_n 3, 1) := dz_29 (kin0 (p := 11) kRcX3_place_eq rfl)
theorem dX3_place_12 : decode cX3_place 12 = .ok (.iload_n 0, 1) := dz_26 (kin0 (p := 12) kRcX3_place_eq rfl)
theorem dX3_place_13 : decode cX3_place 13 = .ok (.i2l, 1) := dz_133 (kin0 (p := 13) kRcX3_place_eq rfl)
theorem dX3_place_14 : decode cX3_place 14 = .ok (.iload 4, 2) := dz_21 (kin0 (p := 14) kRcX3_place_eq rfl) (kin0 (p := 15) kRcX3_place_eq rfl)
theorem dX3_place_16 : decode cX3_place 16 = .ok (.invokestatic 55, 3) := dz_184 (kin0 (p := 16) kRcX3_place_eq rfl) (kin0 (p := 17) kRcX3_place_eq rfl) (kin0 (p := 18) kRcX3_place_eq rfl) rfl
theorem dX3_place_19 : decode cX3_place 19 = .ok (.iadd, 1) := dz_96 (kin0 (p := 19) kRcX3_place_eq rfl)
theorem dX3_place_20 : decode cX3_place 20 = .ok (.istore_n 3, 1) := dz_62 (kin0 (p := 20) kRcX3_place_eq rfl)
theorem dX3_place_21 : decode cX3_place 21 = .ok (.iinc 4 1, 3) := dz_132 (kin0 (p := 21) kRcX3_place_eq rfl) (kin0 (p := 22) kRcX3_place_eq rfl) (kin0 (p := 23) kRcX3_place_eq rfl) rfl
theorem dX3_place_24 : decode cX3_place 24 = .ok (.goto (-19), 3) := dz_167 (kin0 (p := 24) kRcX3_place_eq rfl) (kin0 (p := 25) kRcX3_place_eq rfl) (kin0 (p := 26) kRcX3_place_eq rfl) rfl
theorem dX3_place_27 : decode cX3_place 27 = .ok (.iload_n 3, 1) := dz_29 (kin0 (p := 27) kRcX3_place_eq rfl)
theorem dX3_place_28 : decode cX3_place 28 = .ok (.ireturn, 1) := dz_172 (kin0 (p := 28) kRcX3_place_eq rfl)
def kCcX3_numberOf_0 : List Nat := [42, 3, 46, 133, 64, 31, 20, 0, 28, 97, 7, 184, 0, 58, 31, 20, 0, 62, 97, 16, 100, 184, 0, 58, 101, 31, 20, 0, 64, 97, 17, 1]
def kCcX3_numberOf_1 : List Nat := [144, 184, 0, 58, 97, 66, 20, 0, 66, 31, 105, 33, 97, 20, 0, 68, 101, 42, 3, 46, 42, 4, 46, 42, 5, 46, 184, 0, 70, 133, 97, 10]
def kCcX3_numberOf_2 : List Nat := [101, 173]
def kRcX3_numberOf_3 : List Nat := []
def kRcX3_numberOf_2 : List Nat := kCcX3_numberOf_2 ++ kRcX3_numberOf_3
def kRcX3_numberOf_1 : List Nat := kCcX3_numberOf_1 ++ kRcX3_numberOf_2
def kRcX3_numberOf_0 : List Nat := kCcX3_numberOf_0 ++ kRcX3_numberOf_1
theorem kRcX3_numberOf_eq : cX3_numberOf.data.toList.map UInt8.toNat = kRcX3_numberOf_0 := by decide +kernel
theorem katcX3_numberOf_0 (i : Nat) : (cX3_numberOf.data.toList.map UInt8.toNat)[0 + i]? = kRcX3_numberOf_0[i]? := by rw [kRcX3_numberOf_eq, Nat.zero_add]
theorem katcX3_numberOf_1 : ∀ i : Nat, (cX3_numberOf.data.toList.map UInt8.toNat)[32 + i]? = kRcX3_numberOf_1[i]? := kstep katcX3_numberOf_0 (C := kCcX3_numberOf_0) rfl rfl
theorem katcX3_numberOf_2 : ∀ i : Nat, (cX3_numberOf.data.toList.map UInt8.toNat)[64 + i]? = kRcX3_numberOf_2[i]? := kstep katcX3_numberOf_1 (C := kCcX3_numberOf_1) rfl rfl
theorem kBcX3_numberOf_0 {b : Nat} (p : Nat) (hp : Nat.ble 0 p = true) (h : kCcX3_numberOf_0[p - 0]? = some b) : kb cX3_numberOf p b := kin katcX3_numberOf_0 rfl hp h
theorem kBcX3_numberOf_1 {b : Nat} (p : Nat) (hp : Nat.ble 32 p = true) (h : kCcX3_numberOf_1[p - 32]? = some b) : kb cX3_numberOf p b := kin katcX3_numberOf_1 rfl hp h
theorem kBcX3_numberOf_2 {b : Nat} (p : Nat) (hp : Nat.ble 64 p = true) (h : kCcX3_numberOf_2[p - 64]? = some b) : kb cX3_numberOf p b := kin katcX3_numberOf_2 rfl hp h
theorem dX3_numberOf_0 : decode cX3_numberOf 0 = .ok (.aload_n 0, 1) := dz_42 (kBcX3_numberOf_0 0 rfl rfl)
theorem dX3_numberOf_1 : decode cX3_numberOf 1 = .ok (.iconst 0, 1) := dz_3 (kBcX3_numberOf_0 1 rfl rfl)
theorem dX3_numberOf_2 : decode cX3_numberOf 2 = .ok (.iaload, 1) := dz_46 (kBcX3_numberOf_0 2 rfl rfl)
theorem dX3_numberOf_3 : decode cX3_numberOf 3 = .ok (.i2l, 1) := dz_133 (kBcX3_numberOf_0 3 rfl rfl)
theorem dX3_numberOf_4 : decode cX3_numberOf 4 = .ok (.lstore_n 1, 1) := dz_64 (kBcX3_numberOf_0 4 rfl rfl)
theorem dX3_numberOf_5 : decode cX3_numberOf 5 = .ok (.lload_n 1, 1) := dz_31 (kBcX3_numberOf_0 5 rfl rfl)
theorem dX3_numberOf_6 : decode cX3_numberOf 6 = .ok (.ldc2_w 28, 3) := dz_20 (kBcX3_numberOf_0 6 rfl rfl) (kBcX3_numberOf_0 7 rfl rfl) (kBcX3_numberOf_0 8 rfl rfl) rfl
theorem dX3_numberOf_9 : decode cX3_numberOf 9 = .ok (.ladd, 1) := dz_97 (kBcX3_numberOf_0 9 rfl rfl)
theorem dX3_numberOf_10 : decode cX3_numberOf 10 = .ok (.iconst 4, 1) := dz_7 (kBcX3_numberOf_0 10 rfl rfl)
theorem dX3_numberOf_11 : decode cX3_numberOf 11 = .ok (.invokestatic 58, 3) := dz_184 (kBcX3_numberOf_0 11 rfl rfl) (kBcX3_numberOf_0 12 rfl rfl) (kBcX3_numberOf_0 13 rfl rfl) rfl
theorem dX3_numberOf_14 : decode cX3_numberOf 14 = .ok (.lload_n 1, 1) := dz_31 (kBcX3_numberOf_0 14 rfl rfl)
theorem dX3_numberOf_15 : decode cX3_numberOf 15 = .ok (.ldc2_w 62, 3) := dz_20 (kBcX3_numberOf_0 15 rfl rfl) (kBcX3_numberOf_0 16 rfl rfl) (kBcX3_numberOf_0 17 rfl rfl) rfl
theorem dX3_numberOf_18 : decode cX3_numberOf 18 = .ok (.ladd, 1) := dz_97 (kBcX3_numberOf_0 18 rfl rfl)
theorem dX3_numberOf_19 : decode cX3_numberOf 19 = .ok (.bipush 100, 2) := dz_16 (kBcX3_numberOf_0 19 rfl rfl) (kBcX3_numberOf_0 20 rfl rfl) rfl
theorem dX3_numberOf_21 : decode cX3_numberOf 21 = .ok (.invokestatic 58, 3) := dz_184 (kBcX3_numberOf_0 21 rfl rfl) (kBcX3_numberOf_0 22 rfl rfl) (kBcX3_numberOf_0 23 rfl rfl) rfl
theorem dX3_numberOf_24 : decode cX3_numberOf 24 = .ok (.lsub, 1) := dz_101 (kBcX3_numberOf_0 24 rfl rfl)
theorem dX3_numberOf_25 : decode cX3_numberOf 25 = .ok (.lload_n 1, 1) := dz_31 (kBcX3_numberOf_0 25 rfl rfl)
theorem dX3_numberOf_26 : decode cX3_numberOf 26 = .ok (.ldc2_w 64, 3) := dz_20 (kBcX3_numberOf_0 26 rfl rfl) (kBcX3_numberOf_0 27 rfl rfl) (kBcX3_numberOf_0 28 rfl rfl) rfl
theorem dX3_numberOf_29 : decode cX3_numberOf 29 = .ok (.ladd, 1) := dz_97 (kBcX3_numberOf_0 29 rfl rfl)
theorem dX3_numberOf_30 : decode cX3_numberOf 30 = .ok (.sipush 400, 3) := dz_17 (kBcX3_numberOf_0 30 rfl rfl) (kBcX3_numberOf_0 31 rfl rfl) (kBcX3_numberOf_1 32 rfl rfl) rfl
theorem dX3_numberOf_33 : decode cX3_numberOf 33 = .ok (.invokestatic 58, 3) := dz_184 (kBcX3_numberOf_1 33 rfl rfl) (kBcX3_numberOf_1 34 rfl rfl) (kBcX3_numberOf_1 35 rfl rfl) rfl
theorem dX3_numberOf_36 : decode cX3_numberOf 36 = .ok (.ladd, 1) := dz_97 (kBcX3_numberOf_1 36 rfl rfl)
theorem dX3_numberOf_37 : decode cX3_numberOf 37 = .ok (.lstore_n 3, 1) := dz_66 (kBcX3_numberOf_1 37 rfl rfl)
theorem dX3_numberOf_38 : decode cX3_numberOf 38 = .ok (.ldc2_w 66, 3) := dz_20 (kBcX3_numberOf_1 38 rfl rfl) (kBcX3_numberOf_1 39 rfl rfl) (kBcX3_numberOf_1 40 rfl rfl) rfl
theorem dX3_numberOf_41 : decode cX3_numberOf 41 = .ok (.lload_n 1, 1) := dz_31 (kBcX3_numberOf_1 41 rfl rfl)
theorem dX3_numberOf_42 : decode cX3_numberOf 42 = .ok (.lmul, 1) := dz_105 (kBcX3_numberOf_1 42 rfl rfl)
theorem dX3_numberOf_43 : decode cX3_numberOf 43 = .ok (.lload_n 3, 1) := dz_33 (kBcX3_numberOf_1 43 rfl rfl)
theorem dX3_numberOf_44 : decode cX3_numberOf 44 = .ok (.ladd, 1) := dz_97 (kBcX3_numberOf_1 44 rfl rfl)
theorem dX3_numberOf_45 : decode cX3_numberOf 45 = .ok (.ldc2_w 68, 3) := dz_20 (kBcX3_numberOf_1 45 rfl rfl) (kBcX3_numberOf_1 46 rfl rfl) (kBcX3_numberOf_1 47 rfl rfl) rfl
theorem dX3_numberOf_48 : decode cX3_numberOf 48 = .ok (.lsub, 1) := dz_101 (kBcX3_numberOf_1 48 rfl rfl)
theorem dX3_numberOf_49 : decode cX3_numberOf 49 = .ok (.aload_n 0, 1) := dz_42 (kBcX3_numberOf_1 49 rfl rfl)
theorem dX3_numberOf_50 : decode cX3_numberOf 50 = .ok (.iconst 0, 1) := dz_3 (kBcX3_numberOf_1 50 rfl rfl)
theorem dX3_numberOf_51 : decode cX3_numberOf 51 = .ok (.iaload, 1) := dz_46 (kBcX3_numberOf_1 51 rfl rfl)
theorem dX3_numberOf_52 : decode cX3_numberOf 52 = .ok (.aload_n 0, 1) := dz_42 (kBcX3_numberOf_1 52 rfl rfl)
theorem dX3_numberOf_53 : decode cX3_numberOf 53 = .ok (.iconst 1, 1) := dz_4 (kBcX3_numberOf_1 53 rfl rfl)
theorem dX3_numberOf_54 : decode cX3_numberOf 54 = .ok (.iaload, 1) := dz_46 (kBcX3_numberOf_1 54 rfl rfl)
theorem dX3_numberOf_55 : decode cX3_numberOf 55 = .ok (.aload_n 0, 1) := dz_42 (kBcX3_numberOf_1 55 rfl rfl)
theorem dX3_numberOf_56 : decode cX3_numberOf 56 = .ok (.iconst 2, 1) := dz_5 (kBcX3_numberOf_1 56 rfl rfl)
theorem dX3_numberOf_57 : decode cX3_numberOf 57 = .ok (.iaload, 1) := dz_46 (kBcX3_numberOf_1 57 rfl rfl)
theorem dX3_numberOf_58 : decode cX3_numberOf 58 = .ok (.invokestatic 70, 3) := dz_184 (kBcX3_numberOf_1 58 rfl rfl) (kBcX3_numberOf_1 59 rfl rfl) (kBcX3_numberOf_1 60 rfl rfl) rfl
theorem dX3_numberOf_61 : decode cX3_numberOf 61 = .ok (.i2l, 1) := dz_133 (kBcX3_numberOf_1 61 rfl rfl)
theorem dX3_numberOf_62 : decode cX3_numberOf 62 = .ok (.ladd, 1) := dz_97 (kBcX3_numberOf_1 62 rfl rfl)
theorem dX3_numberOf_63 : decode cX3_numberOf 63 = .ok (.lconst 1, 1) := dz_10 (kBcX3_numberOf_1 63 rfl rfl)
theorem dX3_numberOf_64 : decode cX3_numberOf 64 = .ok (.lsub, 1) := dz_101 (kBcX3_numberOf_2 64 rfl rfl)
theorem dX3_numberOf_65 : decode cX3_numberOf 65 = .ok (.lreturn, 1) := dz_173 (kBcX3_numberOf_2 65 rfl rfl)
def kCcX3_weekday_0 : List Nat := [4, 42, 184, 0, 74, 20, 0, 28, 97, 16, 7, 184, 0, 51, 96, 172]
theorem kRcX3_weekday_eq : cX3_weekday.data.toList.map UInt8.toNat = kCcX3_weekday_0 := by decide +kernel
theorem dX3_weekday_0 : decode cX3_weekday 0 = .ok (.iconst 1, 1) := dz_4 (kin0 (p := 0) kRcX3_weekday_eq rfl)
theorem dX3_weekday_1 : decode cX3_weekday 1 = .ok (.aload_n 0, 1) := dz_42 (kin0 (p := 1) kRcX3_weekday_eq rfl)
theorem dX3_weekday_2 : decode cX3_weekday 2 = .ok (.invokestatic 74, 3) := dz_184 (kin0 (p := 2) kRcX3_weekday_eq rfl) (kin0 (p := 3) kRcX3_weekday_eq rfl) (kin0 (p := 4) kRcX3_weekday_eq rfl) rfl
theorem dX3_weekday_5 : decode cX3_weekday 5 = .ok (.ldc2_w 28, 3) := dz_20 (kin0 (p := 5) kRcX3_weekday_eq rfl) (kin0 (p := 6) kRcX3_weekday_eq rfl) (kin0 (p := 7) kRcX3_weekday_eq rfl) rfl
theorem dX3_weekday_8 : decode cX3_weekday 8 = .ok (.ladd, 1) := dz_97 (kin0 (p := 8) kRcX3_weekday_eq rfl)
theorem dX3_weekday_9 : decode cX3_weekday 9 = .ok (.bipush 7, 2) := dz_16 (kin0 (p := 9) kRcX3_weekday_eq rfl) (kin0 (p := 10) kRcX3_weekday_eq rfl) rfl
theorem dX3_weekday_11 : decode cX3_weekday 11 = .ok (.invokestatic 51, 3) := dz_184 (kin0 (p := 11) kRcX3_weekday_eq rfl) (kin0 (p := 12) kRcX3_weekday_eq rfl) (kin0 (p := 13) kRcX3_weekday_eq rfl) rfl
theorem dX3_weekday_14 : decode cX3_weekday 14 = .ok (.iadd, 1) := dz_96 (kin0 (p := 14) kRcX3_weekday_eq rfl)
theorem dX3_weekday_15 : decode cX3_weekday 15 = .ok (.ireturn, 1) := dz_172 (kin0 (p := 15) kRcX3_weekday_eq rfl)
def kCcX3_side_0 : List Nat := [26, 158, 0, 7, 4, 167, 0, 4, 3, 184, 0, 78, 172]
theorem kRcX3_side_eq : cX3_side.data.toList.map UInt8.toNat = kCcX3_side_0 := by decide +kernel
theorem dX3_side_0 : decode cX3_side 0 = .ok (.iload_n 0, 1) := dz_26 (kin0 (p := 0) kRcX3_side_eq rfl)
theorem dX3_side_1 : decode cX3_side 1 = .ok (.ifCond .le 7, 3) := dz_158 (kin0 (p := 1) kRcX3_side_eq rfl) (kin0 (p := 2) kRcX3_side_eq rfl) (kin0 (p := 3) kRcX3_side_eq rfl) rfl
theorem dX3_side_4 : decode cX3_side 4 = .ok (.iconst 1, 1) := dz_4 (kin0 (p := 4) kRcX3_side_eq rfl)
theorem dX3_side_5 : decode cX3_side 5 = .ok (.goto 4, 3) := dz_167 (kin0 (p := 5) kRcX3_side_eq rfl) (kin0 (p := 6) kRcX3_side_eq rfl) (kin0 (p := 7) kRcX3_side_eq rfl) rfl
theorem dX3_side_8 : decode cX3_side 8 = .ok (.iconst 0, 1) := dz_3 (kin0 (p := 8) kRcX3_side_eq rfl)
theorem dX3_side_9 : decode cX3_side 9 = .ok (.invokestatic 78, 3) := dz_184 (kin0 (p := 9) kRcX3_side_eq rfl) (kin0 (p := 10) kRcX3_side_eq rfl) (kin0 (p := 11) kRcX3_side_eq rfl) rfl
theorem dX3_side_12 : decode cX3_side 12 = .ok (.ireturn, 1) := dz_172 (kin0 (p := 12) kRcX3_side_eq rfl)
def kCcX3_rank_0 : List Nat := [26, 158, 0, 7, 26, 167, 0, 6, 4, 26, 100, 172]
theorem kRcX3_rank_eq : cX3_rank.data.toList.map UInt8.toNat = kCcX3_rank_0 := by decide +kernel
theorem dX3_rank_0 : decode cX3_rank 0 = .ok (.iload_n 0, 1) := dz_26 (kin0 (p := 0) kRcX3_rank_eq rfl)
theorem dX3_rank_1 : decode cX3_rank 1 = .ok (.ifCond .le 7, 3) := dz_158 (kin0 (p := 1) kRcX3_rank_eq rfl) (kin0 (p := 2) kRcX3_rank_eq rfl) (kin0 (p := 3) kRcX3_rank_eq rfl) rfl
theorem dX3_rank_4 : decode cX3_rank 4 = .ok (.iload_n 0, 1) := dz_26 (kin0 (p := 4) kRcX3_rank_eq rfl)
theorem dX3_rank_5 : decode cX3_rank 5 = .ok (.goto 6, 3) := dz_167 (kin0 (p := 5) kRcX3_rank_eq rfl) (kin0 (p := 6) kRcX3_rank_eq rfl) (kin0 (p := 7) kRcX3_rank_eq rfl) rfl
theorem dX3_rank_8 : decode cX3_rank 8 = .ok (.iconst 1, 1) := dz_4 (kin0 (p := 8) kRcX3_rank_eq rfl)
theorem dX3_rank_9 : decode cX3_rank 9 = .ok (.iload_n 0, 1) := dz_26 (kin0 (p := 9) kRcX3_rank_eq rfl)
theorem dX3_rank_10 : decode cX3_rank 10 = .ok (.isub, 1) := dz_100 (kin0 (p := 10) kRcX3_rank_eq rfl)
theorem dX3_rank_11 : decode cX3_rank 11 = .ok (.ireturn, 1) := dz_172 (kin0 (p := 11) kRcX3_rank_eq rfl)
def kCcX3_ranked_0 : List Nat := [27, 4, 160, 0, 8, 26, 133, 167, 0, 7, 10, 26, 133, 101, 173]
theorem kRcX3_ranked_eq : cX3_ranked.data.toList.map UInt8.toNat = kCcX3_ranked_0 := by decide +kernel
theorem dX3_ranked_0 : decode cX3_ranked 0 = .ok (.iload_n 1, 1) := dz_27 (kin0 (p := 0) kRcX3_ranked_eq rfl)
theorem dX3_ranked_1 : decode cX3_ranked 1 = .ok (.iconst 1, 1) := dz_4 (kin0 (p := 1) kRcX3_ranked_eq rfl)
theorem dX3_ranked_2 : decode cX3_ranked 2 = .ok (.if_icmp .ne 8, 3) := dz_160 (kin0 (p := 2) kRcX3_ranked_eq rfl) (kin0 (p := 3) kRcX3_ranked_eq rfl) (kin0 (p := 4) kRcX3_ranked_eq rfl) rfl
theorem dX3_ranked_5 : decode cX3_ranked 5 = .ok (.iload_n 0, 1) := dz_26 (kin0 (p := 5) kRcX3_ranked_eq rfl)
theorem dX3_ranked_6 : decode cX3_ranked 6 = .ok (.i2l, 1) := dz_133 (kin0 (p := 6) kRcX3_ranked_eq rfl)
theorem dX3_ranked_7 : decode cX3_ranked 7 = .ok (.goto 7, 3) := dz_167 (kin0 (p := 7) kRcX3_ranked_eq rfl) (kin0 (p := 8) kRcX3_ranked_eq rfl) (kin0 (p := 9) kRcX3_ranked_eq rfl) rfl
theorem dX3_ranked_10 : decode cX3_ranked 10 = .ok (.lconst 1, 1) := dz_10 (kin0 (p := 10) kRcX3_ranked_eq rfl)
theorem dX3_ranked_11 : decode cX3_ranked 11 = .ok (.iload_n 0, 1) := dz_26 (kin0 (p := 11) kRcX3_ranked_eq rfl)
theorem dX3_ranked_12 : decode cX3_ranked 12 = .ok (.i2l, 1) := dz_133 (kin0 (p := 12) kRcX3_ranked_eq rfl)
theorem dX3_ranked_13 : decode cX3_ranked 13 = .ok (.lsub, 1) := dz_101 (kin0 (p := 13) kRcX3_ranked_eq rfl)
theorem dX3_ranked_14 : decode cX3_ranked 14 = .ok (.lreturn, 1) := dz_173 (kin0 (p := 14) kRcX3_ranked_eq rfl)
def kCcX3_countOf_0 : List Nat := [20, 0, 38, 42, 3, 46, 133, 105, 42, 4, 46, 133, 97, 10, 101, 173]
theorem kRcX3_countOf_eq : cX3_countOf.data.toList.map UInt8.toNat = kCcX3_countOf_0 := by decide +kernel
theorem dX3_countOf_0 : decode cX3_countOf 0 = .ok (.ldc2_w 38, 3) := dz_20 (kin0 (p := 0) kRcX3_countOf_eq rfl) (kin0 (p := 1) kRcX3_countOf_eq rfl) (kin0 (p := 2) kRcX3_countOf_eq rfl) rfl
theorem dX3_countOf_3 : decode cX3_countOf 3 = .ok (.aload_n 0, 1) := dz_42 (kin0 (p := 3) kRcX3_countOf_eq rfl)
theorem dX3_countOf_4 : decode cX3_countOf 4 = .ok (.iconst 0, 1) := dz_3 (kin0 (p := 4) kRcX3_countOf_eq rfl)
theorem dX3_countOf_5 : decode cX3_countOf 5 = .ok (.iaload, 1) := dz_46 (kin0 (p := 5) kRcX3_countOf_eq rfl)
theorem dX3_countOf_6 : decode cX3_countOf 6 = .ok (.i2l, 1) := dz_133 (kin0 (p := 6) kRcX3_countOf_eq rfl)
theorem dX3_countOf_7 : decode cX3_countOf 7 = .ok (.lmul, 1) := dz_105 (kin0 (p := 7) kRcX3_countOf_eq rfl)
theorem dX3_countOf_8 : decode cX3_countOf 8 = .ok (.aload_n 0, 1) := dz_42 (kin0 (p := 8) kRcX3_countOf_eq rfl)
theorem dX3_countOf_9 : decode cX3_countOf 9 = .ok (.iconst 1, 1) := dz_4 (kin0 (p := 9) kRcX3_countOf_eq rfl)
theorem dX3_countOf_10 : decode cX3_countOf 10 = .ok (.iaload, 1) := dz_46 (kin0 (p := 10) kRcX3_countOf_eq rfl)
theorem dX3_countOf_11 : decode cX3_countOf 11 = .ok (.i2l, 1) := dz_133 (kin0 (p := 11) kRcX3_countOf_eq rfl)
theorem dX3_countOf_12 : decode cX3_countOf 12 = .ok (.ladd, 1) := dz_97 (kin0 (p := 12) kRcX3_countOf_eq rfl)
theorem dX3_countOf_13 : decode cX3_countOf 13 = .ok (.lconst 1, 1) := dz_10 (kin0 (p := 13) kRcX3_countOf_eq rfl)
theorem dX3_countOf_14 : decode cX3_countOf 14 = .ok (.lsub, 1) := dz_101 (kin0 (p := 14) kRcX3_countOf_eq rfl)
theorem dX3_countOf_15 : decode cX3_countOf 15 = .ok (.lreturn, 1) := dz_173 (kin0 (p := 15) kRcX3_countOf_eq rfl)
def kCcX3_signed_0 : List Nat := [28, 153, 0, 8, 30, 117, 167, 0, 4, 30, 173]
theorem kRcX3_signed_eq : cX3_signed.data.toList.map UInt8.toNat = kCcX3_signed_0 := by decide +kernel
theorem dX3_signed_0 : decode cX3_signed 0 = .ok (.iload_n 2, 1) := dz_28 (kin0 (p := 0) kRcX3_signed_eq rfl)
theorem dX3_signed_1 : decode cX3_signed 1 = .ok (.ifCond .eq 8, 3) := dz_153 (kin0 (p := 1) kRcX3_signed_eq rfl) (kin0 (p := 2) kRcX3_signed_eq rfl) (kin0 (p := 3) kRcX3_signed_eq rfl) rfl
theorem dX3_signed_4 : decode cX3_signed 4 = .ok (.lload_n 0, 1) := dz_30 (kin0 (p := 4) kRcX3_signed_eq rfl)
theorem dX3_signed_5 : decode cX3_signed 5 = .ok (.lneg, 1) := dz_117 (kin0 (p := 5) kRcX3_signed_eq rfl)
theorem dX3_signed_6 : decode cX3_signed 6 = .ok (.goto 4, 3) := dz_167 (kin0 (p := 6) kRcX3_signed_eq rfl) (kin0 (p := 7) kRcX3_signed_eq rfl) (kin0 (p := 8) kRcX3_signed_eq rfl) rfl
theorem dX3_signed_9 : decode cX3_signed 9 = .ok (.lload_n 0, 1) := dz_30 (kin0 (p := 9) kRcX3_signed_eq rfl)
theorem dX3_signed_10 : decode cX3_signed 10 = .ok (.lreturn, 1) := dz_173 (kin0 (p := 10) kRcX3_signed_eq rfl)
def kCcX3_isEach_0 : List Nat := [42, 3, 46, 5, 160, 0, 11, 42, 4, 46, 16, 29, 159, 0, 7, 4, 167, 0, 4, 3, 172]
theorem kRcX3_isEach_eq : cX3_isEach.data.toList.map UInt8.toNat = kCcX3_isEach_0 := by decide +kernel
theorem dX3_isEach_0 : decode cX3_isEach 0 = .ok (.aload_n 0, 1) := dz_42 (kin0 (p := 0) kRcX3_isEach_eq rfl)
theorem dX3_isEach_1 : decode cX3_isEach 1 = .ok (.iconst 0, 1) := dz_3 (kin0 (p := 1) kRcX3_isEach_eq rfl)
theorem dX3_isEach_2 : decode cX3_isEach 2 = .ok (.iaload, 1) := dz_46 (kin0 (p := 2) kRcX3_isEach_eq rfl)
theorem dX3_isEach_3 : decode cX3_isEach 3 = .ok (.iconst 2, 1) := dz_5 (kin0 (p := 3) kRcX3_isEach_eq rfl)
theorem dX3_isEach_4 : decode cX3_isEach 4 = .ok (.if_icmp .ne 11, 3) := dz_160 (kin0 (p := 4) kRcX3_isEach_eq rfl) (kin0 (p := 5) kRcX3_isEach_eq rfl) (kin0 (p := 6) kRcX3_isEach_eq rfl) rfl
theorem dX3_isEach_7 : decode cX3_isEach 7 = .ok (.aload_n 0, 1) := dz_42 (kin0 (p := 7) kRcX3_isEach_eq rfl)
theorem dX3_isEach_8 : decode cX3_isEach 8 = .ok (.iconst 1, 1) := dz_4 (kin0 (p := 8) kRcX3_isEach_eq rfl)
theorem dX3_isEach_9 : decode cX3_isEach 9 = .ok (.iaload, 1) := dz_46 (kin0 (p := 9) kRcX3_isEach_eq rfl)
theorem dX3_isEach_10 : decode cX3_isEach 10 = .ok (.bipush 29, 2) := dz_16 (kin0 (p := 10) kRcX3_isEach_eq rfl) (kin0 (p := 11) kRcX3_isEach_eq rfl) rfl
theorem dX3_isEach_12 : decode cX3_isEach 12 = .ok (.if_icmp .eq 7, 3) := dz_159 (kin0 (p := 12) kRcX3_isEach_eq rfl) (kin0 (p := 13) kRcX3_isEach_eq rfl) (kin0 (p := 14) kRcX3_isEach_eq rfl) rfl
theorem dX3_isEach_15 : decode cX3_isEach 15 = .ok (.iconst 1, 1) := dz_4 (kin0 (p := 15) kRcX3_isEach_eq rfl)
theorem dX3_isEach_16 : decode cX3_isEach 16 = .ok (.goto 4, 3) := dz_167 (kin0 (p := 16) kRcX3_isEach_eq rfl) (kin0 (p := 17) kRcX3_isEach_eq rfl) (kin0 (p := 18) kRcX3_isEach_eq rfl) rfl
theorem dX3_isEach_19 : decode cX3_isEach 19 = .ok (.iconst 0, 1) := dz_3 (kin0 (p := 19) kRcX3_isEach_eq rfl)
theorem dX3_isEach_20 : decode cX3_isEach 20 = .ok (.ireturn, 1) := dz_172 (kin0 (p := 20) kRcX3_isEach_eq rfl)
def kCcX3_isInNow_0 : List Nat := [42, 4, 46, 31, 42, 3, 46, 184, 0, 55, 163, 0, 7, 4, 167, 0, 4, 3, 172]
theorem kRcX3_isInNow_eq : cX3_isInNow.data.toList.map UInt8.toNat = kCcX3_isInNow_0 := by decide +kernel
theorem dX3_isInNow_0 : decode cX3_isInNow 0 = .ok (.aload_n 0, 1) := dz_42 (kin0 (p := 0) kRcX3_isInNow_eq rfl)
theorem dX3_isInNow_1 : decode cX3_isInNow 1 = .ok (.iconst 1, 1) := dz_4 (kin0 (p := 1) kRcX3_isInNow_eq rfl)
theorem dX3_isInNow_2 : decode cX3_isInNow 2 = .ok (.iaload, 1) := dz_46 (kin0 (p := 2) kRcX3_isInNow_eq rfl)
theorem dX3_isInNow_3 : decode cX3_isInNow 3 = .ok (.lload_n 1, 1) := dz_31 (kin0 (p := 3) kRcX3_isInNow_eq rfl)
theorem dX3_isInNow_4 : decode cX3_isInNow 4 = .ok (.aload_n 0, 1) := dz_42 (kin0 (p := 4) kRcX3_isInNow_eq rfl)
theorem dX3_isInNow_5 : decode cX3_isInNow 5 = .ok (.iconst 0, 1) := dz_3 (kin0 (p := 5) kRcX3_isInNow_eq rfl)
theorem dX3_isInNow_6 : decode cX3_isInNow 6 = .ok (.iaload, 1) := dz_46 (kin0 (p := 6) kRcX3_isInNow_eq rfl)
theorem dX3_isInNow_7 : decode cX3_isInNow 7 = .ok (.invokestatic 55, 3) := dz_184 (kin0 (p := 7) kRcX3_isInNow_eq rfl) (kin0 (p := 8) kRcX3_isInNow_eq rfl) (kin0 (p := 9) kRcX3_isInNow_eq rfl) rfl
theorem dX3_isInNow_10 : decode cX3_isInNow 10 = .ok (.if_icmp .gt 7, 3) := dz_163 (kin0 (p := 10) kRcX3_isInNow_eq rfl) (kin0 (p := 11) kRcX3_isInNow_eq rfl) (kin0 (p := 12) kRcX3_isInNow_eq rfl) rfl
theorem dX3_isInNow_13 : decode cX3_isInNow 13 = .ok (.iconst 1, 1) := dz_4 (kin0 (p := 13) kRcX3_isInNow_eq rfl)
theorem dX3_isInNow_14 : decode cX3_isInNow 14 = .ok (.goto 4, 3) := dz_167 (kin0 (p := 14) kRcX3_isInNow_eq rfl) (kin0 (p := 15) kRcX3_isInNow_eq rfl) (kin0 (p := 16) kRcX3_isInNow_eq rfl) rfl
theorem dX3_isInNow_17 : decode cX3_isInNow 17 = .ok (.iconst 0, 1) := dz_3 (kin0 (p := 17) kRcX3_isInNow_eq rfl)
theorem dX3_isInNow_18 : decode cX3_isInNow 18 = .ok (.ireturn, 1) := dz_172 (kin0 (p := 18) kRcX3_isInNow_eq rfl)
def kCcX3_dayOf_0 : List Nat := [6, 188, 10, 89, 3, 27, 79, 89, 4, 42, 3, 46, 79, 89, 5, 42, 27, 133, 184, 0, 82, 153, 0, 9, 42, 4, 46, 167, 0, 5, 16, 28]
def kCcX3_dayOf_1 : List Nat := [79, 176]
def kRcX3_dayOf_2 : List Nat := []
def kRcX3_dayOf_1 : List Nat := kCcX3_dayOf_1 ++ kRcX3_dayOf_2
def kRcX3_dayOf_0 : List Nat := kCcX3_dayOf_0 ++ kRcX3_dayOf_1
theorem kRcX3_dayOf_eq : cX3_dayOf.data.toList.map UInt8.toNat = kRcX3_dayOf_0 := by decide +kernel
theorem katcX3_dayOf_0 (i : Nat) : (cX3_dayOf.data.toList.map UInt8.toNat)[0 + i]? = kRcX3_dayOf_0[i]? := by rw [kRcX3_dayOf_eq, Nat.zero_add]
theorem katcX3_dayOf_1 : ∀ i : Nat, (cX3_dayOf.data.toList.map UInt8.toNat)[32 + i]? = kRcX3_dayOf_1[i]? := kstep katcX3_dayOf_0 (C := kCcX3_dayOf_0) rfl rfl
theorem kBcX3_dayOf_0 {b : Nat} (p : Nat) (hp : Nat.ble 0 p = true) (h : kCcX3_dayOf_0[p - 0]? = some b) : kb cX3_dayOf p b := kin katcX3_dayOf_0 rfl hp h
theorem kBcX3_dayOf_1 {b : Nat} (p : Nat) (hp : Nat.ble 32 p = true) (h : kCcX3_dayOf_1[p - 32]? = some b) : kb cX3_dayOf p b := kin katcX3_dayOf_1 rfl hp h
theorem dX3_dayOf_0 : decode cX3_dayOf 0 = .ok (.iconst 3, 1) := dz_6 (kBcX3_dayOf_0 0 rfl rfl)
theorem dX3_dayOf_1 : decode cX3_dayOf 1 = .ok (.newarray .int, 2) := by decide +kernel
theorem dX3_dayOf_3 : decode cX3_dayOf 3 = .ok (.dup, 1) := dz_89 (kBcX3_dayOf_0 3 rfl rfl)
theorem dX3_dayOf_4 : decode cX3_dayOf 4 = .ok (.iconst 0, 1) := dz_3 (kBcX3_dayOf_0 4 rfl rfl)
theorem dX3_dayOf_5 : decode cX3_dayOf 5 = .ok (.iload_n 1, 1) := dz_27 (kBcX3_dayOf_0 5 rfl rfl)
theorem dX3_dayOf_6 : decode cX3_dayOf 6 = .ok (.iastore, 1) := dz_79 (kBcX3_dayOf_0 6 rfl rfl)
theorem dX3_dayOf_7 : decode cX3_dayOf 7 = .ok (.dup, 1) := dz_89 (kBcX3_dayOf_0 7 rfl rfl)
theorem dX3_dayOf_8 : decode cX3_dayOf 8 = .ok (.iconst 1, 1) := dz_4 (kBcX3_dayOf_0 8 rfl rfl)
theorem dX3_dayOf_9 : decode cX3_dayOf 9 = .ok (.aload_n 0, 1) := dz_42 (kBcX3_dayOf_0 9 rfl rfl)
theorem dX3_dayOf_10 : decode cX3_dayOf 10 = .ok (.iconst 0, 1) := dz_3 (kBcX3_dayOf_0 10 rfl rfl)
theorem dX3_dayOf_11 : decode cX3_dayOf 11 = .ok (.iaload, 1) := dz_46 (kBcX3_dayOf_0 11 rfl rfl)
theorem dX3_dayOf_12 : decode cX3_dayOf 12 = .ok (.iastore, 1) := dz_79 (kBcX3_dayOf_0 12 rfl rfl)
theorem dX3_dayOf_13 : decode cX3_dayOf 13 = .ok (.dup, 1) := dz_89 (kBcX3_dayOf_0 13 rfl rfl)
theorem dX3_dayOf_14 : decode cX3_dayOf 14 = .ok (.iconst 2, 1) := dz_5 (kBcX3_dayOf_0 14 rfl rfl)
theorem dX3_dayOf_15 : decode cX3_dayOf 15 = .ok (.aload_n 0, 1) := dz_42 (kBcX3_dayOf_0 15 rfl rfl)
theorem dX3_dayOf_16 : decode cX3_dayOf 16 = .ok (.iload_n 1, 1) := dz_27 (kBcX3_dayOf_0 16 rfl rfl)
theorem dX3_dayOf_17 : decode cX3_dayOf 17 = .ok (.i2l, 1) := dz_133 (kBcX3_dayOf_0 17 rfl rfl)
theorem dX3_dayOf_18 : decode cX3_dayOf 18 = .ok (.invokestatic 82, 3) := dz_184 (kBcX3_dayOf_0 18 rfl rfl) (kBcX3_dayOf_0 19 rfl rfl) (kBcX3_dayOf_0 20 rfl rfl) rfl
theorem dX3_dayOf_21 : decode cX3_dayOf 21 = .ok (.ifCond .eq 9, 3) := dz_153 (kBcX3_dayOf_0 21 rfl rfl) (kBcX3_dayOf_0 22 rfl rfl) (kBcX3_dayOf_0 23 rfl rfl) rfl
theorem dX3_dayOf_24 : decode cX3_dayOf 24 = .ok (.aload_n 0, 1) := dz_42 (kBcX3_dayOf_0 24 rfl rfl)
theorem dX3_dayOf_25 : decode cX3_dayOf 25 = .ok (.iconst 1, 1) := dz_4 (kBcX3_dayOf_0 25 rfl rfl)
theorem dX3_dayOf_26 : decode cX3_dayOf 26 = .ok (.iaload, 1) := dz_46 (kBcX3_dayOf_0 26 rfl rfl)
theorem dX3_dayOf_27 : decode cX3_dayOf 27 = .ok (.goto 5, 3) := dz_167 (kBcX3_dayOf_0 27 rfl rfl) (kBcX3_dayOf_0 28 rfl rfl) (kBcX3_dayOf_0 29 rfl rfl) rfl
theorem dX3_dayOf_30 : decode cX3_dayOf 30 = .ok (.bipush 28, 2) := dz_16 (kBcX3_dayOf_0 30 rfl rfl) (kBcX3_dayOf_0 31 rfl rfl) rfl
theorem dX3_dayOf_32 : decode cX3_dayOf 32 = .ok (.iastore, 1) := dz_79 (kBcX3_dayOf_1 32 rfl rfl)
theorem dX3_dayOf_33 : decode cX3_dayOf 33 = .ok (.areturn, 1) := dz_176 (kBcX3_dayOf_1 33 rfl rfl)
def kCcX3_lengthAt_0 : List Nat := [42, 180, 0, 9, 27, 50, 3, 46, 133, 42, 180, 0, 9, 27, 50, 4, 46, 184, 0, 55, 172]
theorem kRcX3_lengthAt_eq : cX3_lengthAt.data.toList.map UInt8.toNat = kCcX3_lengthAt_0 := by decide +kernel
theorem dX3_lengthAt_0 : decode cX3_lengthAt 0 = .ok (.aload_n 0, 1) := dz_42 (kin0 (p := 0) kRcX3_lengthAt_eq rfl)
theorem dX3_lengthAt_1 : decode cX3_lengthAt 1 = .ok (.getfield 9, 3) := dz_180 (kin0 (p := 1) kRcX3_lengthAt_eq rfl) (kin0 (p := 2) kRcX3_lengthAt_eq rfl) (kin0 (p := 3) kRcX3_lengthAt_eq rfl) rfl
theorem dX3_lengthAt_4 : decode cX3_lengthAt 4 = .ok (.iload_n 1, 1) := dz_27 (kin0 (p := 4) kRcX3_lengthAt_eq rfl)
theorem dX3_lengthAt_5 : decode cX3_lengthAt 5 = .ok (.aaload, 1) := dz_50 (kin0 (p := 5) kRcX3_lengthAt_eq rfl)
theorem dX3_lengthAt_6 : decode cX3_lengthAt 6 = .ok (.iconst 0, 1) := dz_3 (kin0 (p := 6) kRcX3_lengthAt_eq rfl)
theorem dX3_lengthAt_7 : decode cX3_lengthAt 7 = .ok (.iaload, 1) := dz_46 (kin0 (p := 7) kRcX3_lengthAt_eq rfl)
theorem dX3_lengthAt_8 : decode cX3_lengthAt 8 = .ok (.i2l, 1) := dz_133 (kin0 (p := 8) kRcX3_lengthAt_eq rfl)
theorem dX3_lengthAt_9 : decode cX3_lengthAt 9 = .ok (.aload_n 0, 1) := dz_42 (kin0 (p := 9) kRcX3_lengthAt_eq rfl)
theorem dX3_lengthAt_10 : decode cX3_lengthAt 10 = .ok (.getfield 9, 3) := dz_180 (kin0 (p := 10) kRcX3_lengthAt_eq rfl) (kin0 (p := 11) kRcX3_lengthAt_eq rfl) (kin0 (p := 12) kRcX3_lengthAt_eq rfl) rfl
theorem dX3_lengthAt_13 : decode cX3_lengthAt 13 = .ok (.iload_n 1, 1) := dz_27 (kin0 (p := 13) kRcX3_lengthAt_eq rfl)
theorem dX3_lengthAt_14 : decode cX3_lengthAt 14 = .ok (.aaload, 1) := dz_50 (kin0 (p := 14) kRcX3_lengthAt_eq rfl)
theorem dX3_lengthAt_15 : decode cX3_lengthAt 15 = .ok (.iconst 1, 1) := dz_4 (kin0 (p := 15) kRcX3_lengthAt_eq rfl)
theorem dX3_lengthAt_16 : decode cX3_lengthAt 16 = .ok (.iaload, 1) := dz_46 (kin0 (p := 16) kRcX3_lengthAt_eq rfl)
theorem dX3_lengthAt_17 : decode cX3_lengthAt 17 = .ok (.invokestatic 55, 3) := dz_184 (kin0 (p := 17) kRcX3_lengthAt_eq rfl) (kin0 (p := 18) kRcX3_lengthAt_eq rfl) (kin0 (p := 19) kRcX3_lengthAt_eq rfl) rfl
theorem dX3_lengthAt_20 : decode cX3_lengthAt 20 = .ok (.ireturn, 1) := dz_172 (kin0 (p := 20) kRcX3_lengthAt_eq rfl)
def kCcX3_putLeaf_0 : List Nat := [42, 180, 0, 9, 27, 5, 188, 10, 89, 3, 28, 79, 89, 4, 29, 79, 83, 42, 27, 182, 0, 86, 172]
theorem kRcX3_putLeaf_eq : cX3_putLeaf.data.toList.map UInt8.toNat = kCcX3_putLeaf_0 := by decide +kernel
theorem dX3_putLeaf_0 : decode cX3_putLeaf 0 = .ok (.aload_n 0, 1) := dz_42 (kin0 (p := 0) kRcX3_putLeaf_eq rfl)
theorem dX3_putLeaf_1 : decode cX3_putLeaf 1 = .ok (.getfield 9, 3) := dz_180 (kin0 (p := 1) kRcX3_putLeaf_eq rfl) (kin0 (p := 2) kRcX3_putLeaf_eq rfl) (kin0 (p := 3) kRcX3_putLeaf_eq rfl) rfl
theorem dX3_putLeaf_4 : decode cX3_putLeaf 4 = .ok (.iload_n 1, 1) := dz_27 (kin0 (p := 4) kRcX3_putLeaf_eq rfl)
theorem dX3_putLeaf_5 : decode cX3_putLeaf 5 = .ok (.iconst 2, 1) := dz_5 (kin0 (p := 5) kRcX3_putLeaf_eq rfl)
theorem dX3_putLeaf_6 : decode cX3_putLeaf 6 = .ok (.newarray .int, 2) := by decide +kernel
theorem dX3_putLeaf_8 : decode cX3_putLeaf 8 = .ok (.dup, 1) := dz_89 (kin0 (p := 8) kRcX3_putLeaf_eq rfl)
theorem dX3_putLeaf_9 : decode cX3_putLeaf 9 = .ok (.iconst 0, 1) := dz_3 (kin0 (p := 9) kRcX3_putLeaf_eq rfl)
theorem dX3_putLeaf_10 : decode cX3_putLeaf 10 = .ok (.iload_n 2, 1) := dz_28 (kin0 (p := 10) kRcX3_putLeaf_eq rfl)
theorem dX3_putLeaf_11 : decode cX3_putLeaf 11 = .ok (.iastore, 1) := dz_79 (kin0 (p := 11) kRcX3_putLeaf_eq rfl)
theorem dX3_putLeaf_12 : decode cX3_putLeaf 12 = .ok (.dup, 1) := dz_89 (kin0 (p := 12) kRcX3_putLeaf_eq rfl)
theorem dX3_putLeaf_13 : decode cX3_putLeaf 13 = .ok (.iconst 1, 1) := dz_4 (kin0 (p := 13) kRcX3_putLeaf_eq rfl)
theorem dX3_putLeaf_14 : decode cX3_putLeaf 14 = .ok (.iload_n 3, 1) := dz_29 (kin0 (p := 14) kRcX3_putLeaf_eq rfl)
theorem dX3_putLeaf_15 : decode cX3_putLeaf 15 = .ok (.iastore, 1) := dz_79 (kin0 (p := 15) kRcX3_putLeaf_eq rfl)
theorem dX3_putLeaf_16 : decode cX3_putLeaf 16 = .ok (.aastore, 1) := dz_83 (kin0 (p := 16) kRcX3_putLeaf_eq rfl)
theorem dX3_putLeaf_17 : decode cX3_putLeaf 17 = .ok (.aload_n 0, 1) := dz_42 (kin0 (p := 17) kRcX3_putLeaf_eq rfl)
theorem dX3_putLeaf_18 : decode cX3_putLeaf 18 = .ok (.iload_n 1, 1) := dz_27 (kin0 (p := 18) kRcX3_putLeaf_eq rfl)
theorem dX3_putLeaf_19 : decode cX3_putLeaf 19 = .ok (.invokevirtual 86, 3) := dz_182 (kin0 (p := 19) kRcX3_putLeaf_eq rfl) (kin0 (p := 20) kRcX3_putLeaf_eq rfl) (kin0 (p := 21) kRcX3_putLeaf_eq rfl) rfl
theorem dX3_putLeaf_22 : decode cX3_putLeaf 22 = .ok (.ireturn, 1) := dz_172 (kin0 (p := 22) kRcX3_putLeaf_eq rfl)
def kCcX3_putCount_0 : List Nat := [32, 16, 12, 184, 0, 58, 55, 4, 22, 4, 184, 0, 90, 153, 0, 8, 16, 247, 167, 0, 19, 42, 27, 22, 4, 136, 4, 32, 16, 12, 184, 0]
def kCcX3_putCount_1 : List Nat := [51, 96, 182, 0, 93, 172]
def kRcX3_putCount_2 : List Nat := []
def kRcX3_putCount_1 : List Nat := kCcX3_putCount_1 ++ kRcX3_putCount_2
def kRcX3_putCount_0 : List Nat := kCcX3_putCount_0 ++ kRcX3_putCount_1
theorem kRcX3_putCount_eq : cX3_putCount.data.toList.map UInt8.toNat = kRcX3_putCount_0 := by decide +kernel
theorem katcX3_putCount_0 (i : Nat) : (cX3_putCount.data.toList.map UInt8.toNat)[0 + i]? = kRcX3_putCount_0[i]? := by rw [kRcX3_putCount_eq, Nat.zero_add]
theorem katcX3_putCount_1 : ∀ i : Nat, (cX3_putCount.data.toList.map UInt8.toNat)[32 + i]? = kRcX3_putCount_1[i]? := kstep katcX3_putCount_0 (C := kCcX3_putCount_0) rfl rfl
theorem kBcX3_putCount_0 {b : Nat} (p : Nat) (hp : Nat.ble 0 p = true) (h : kCcX3_putCount_0[p - 0]? = some b) : kb cX3_putCount p b := kin katcX3_putCount_0 rfl hp h
theorem kBcX3_putCount_1 {b : Nat} (p : Nat) (hp : Nat.ble 32 p = true) (h : kCcX3_putCount_1[p - 32]? = some b) : kb cX3_putCount p b := kin katcX3_putCount_1 rfl hp h
theorem dX3_putCount_0 : decode cX3_putCount 0 = .ok (.lload_n 2, 1) := dz_32 (kBcX3_putCount_0 0 rfl rfl)
theorem dX3_putCount_1 : decode cX3_putCount 1 = .ok (.bipush 12, 2) := dz_16 (kBcX3_putCount_0 1 rfl rfl) (kBcX3_putCount_0 2 rfl rfl) rfl
theorem dX3_putCount_3 : decode cX3_putCount 3 = .ok (.invokestatic 58, 3) := dz_184 (kBcX3_putCount_0 3 rfl rfl) (kBcX3_putCount_0 4 rfl rfl) (kBcX3_putCount_0 5 rfl rfl) rfl
theorem dX3_putCount_6 : decode cX3_putCount 6 = .ok (.lstore 4, 2) := dz_55 (kBcX3_putCount_0 6 rfl rfl) (kBcX3_putCount_0 7 rfl rfl)
theorem dX3_putCount_8 : decode cX3_putCount 8 = .ok (.lload 4, 2) := dz_22 (kBcX3_putCount_0 8 rfl rfl) (kBcX3_putCount_0 9 rfl rfl)
theorem dX3_putCount_10 : decode cX3_putCount 10 = .ok (.invokestatic 90, 3) := dz_184 (kBcX3_putCount_0 10 rfl rfl) (kBcX3_putCount_0 11 rfl rfl) (kBcX3_putCount_0 12 rfl rfl) rfl
theorem dX3_putCount_13 : decode cX3_putCount 13 = .ok (.ifCond .eq 8, 3) := dz_153 (kBcX3_putCount_0 13 rfl rfl) (kBcX3_putCount_0 14 rfl rfl) (kBcX3_putCount_0 15 rfl rfl) rfl
theorem dX3_putCount_16 : decode cX3_putCount 16 = .ok (.bipush (-9), 2) := dz_16 (kBcX3_putCount_0 16 rfl rfl) (kBcX3_putCount_0 17 rfl rfl) rfl
theorem dX3_putCount_18 : decode cX3_putCount 18 = .ok (.goto 19, 3) := dz_167 (kBcX3_putCount_0 18 rfl rfl) (kBcX3_putCount_0 19 rfl rfl) (kBcX3_putCount_0 20 rfl rfl) rfl
theorem dX3_putCount_21 : decode cX3_putCount 21 = .ok (.aload_n 0, 1) := dz_42 (kBcX3_putCount_0 21 rfl rfl)
theorem dX3_putCount_22 : decode cX3_putCount 22 = .ok (.iload_n 1, 1) := dz_27 (kBcX3_putCount_0 22 rfl rfl)
theorem dX3_putCount_23 : decode cX3_putCount 23 = .ok (.lload 4, 2) := dz_22 (kBcX3_putCount_0 23 rfl rfl) (kBcX3_putCount_0 24 rfl rfl)
theorem dX3_putCount_25 : decode cX3_putCount 25 = .ok (.l2i, 1) := dz_136 (kBcX3_putCount_0 25 rfl rfl)
theorem dX3_putCount_26 : decode cX3_putCount 26 = .ok (.iconst 1, 1) := dz_4 (kBcX3_putCount_0 26 rfl rfl)
theorem dX3_putCount_27 : decode cX3_putCount 27 = .ok (.lload_n 2, 1) := dz_32 (kBcX3_putCount_0 27 rfl rfl)
theorem dX3_putCount_28 : decode cX3_putCount 28 = .ok (.bipush 12, 2) := dz_16 (kBcX3_putCount_0 28 rfl rfl) (kBcX3_putCount_0 29 rfl rfl) rfl
theorem dX3_putCount_30 : decode cX3_putCount 30 = .ok (.invokestatic 51, 3) := dz_184 (kBcX3_putCount_0 30 rfl rfl) (kBcX3_putCount_0 31 rfl rfl) (kBcX3_putCount_1 32 rfl rfl) rfl
theorem dX3_putCount_33 : decode cX3_putCount 33 = .ok (.iadd, 1) := dz_96 (kBcX3_putCount_1 33 rfl rfl)
theorem dX3_putCount_34 : decode cX3_putCount 34 = .ok (.invokevirtual 93, 3) := dz_182 (kBcX3_putCount_1 34 rfl rfl) (kBcX3_putCount_1 35 rfl rfl) (kBcX3_putCount_1 36 rfl rfl) rfl
theorem dX3_putCount_37 : decode cX3_putCount 37 = .ok (.ireturn, 1) := dz_172 (kBcX3_putCount_1 37 rfl rfl)
def kCcX3_leaf_0 : List Nat := [42, 27, 184, 0, 96, 28, 133, 184, 0, 90, 154, 0, 10, 29, 184, 0, 100, 153, 0, 7, 4, 167, 0, 4, 3, 182, 0, 103, 153, 0, 7, 3]
def kCcX3_leaf_1 : List Nat := [167, 0, 10, 42, 27, 28, 29, 182, 0, 93, 172]
def kRcX3_leaf_2 : List Nat := []
def kRcX3_leaf_1 : List Nat := kCcX3_leaf_1 ++ kRcX3_leaf_2
def kRcX3_leaf_0 : List Nat := kCcX3_leaf_0 ++ kRcX3_leaf_1
theorem kRcX3_leaf_eq : cX3_leaf.data.toList.map UInt8.toNat = kRcX3_leaf_0 := by decide +kernel
theorem katcX3_leaf_0 (i : Nat) : (cX3_leaf.data.toList.map UInt8.toNat)[0 + i]? = kRcX3_leaf_0[i]? := by rw [kRcX3_leaf_eq, Nat.zero_add]
theorem katcX3_leaf_1 : ∀ i : Nat, (cX3_leaf.data.toList.map UInt8.toNat)[32 + i]? = kRcX3_leaf_1[i]? := kstep katcX3_leaf_0 (C := kCcX3_leaf_0) rfl rfl
theorem kBcX3_leaf_0 {b : Nat} (p : Nat) (hp : Nat.ble 0 p = true) (h : kCcX3_leaf_0[p - 0]? = some b) : kb cX3_leaf p b := kin katcX3_leaf_0 rfl hp h
theorem kBcX3_leaf_1 {b : Nat} (p : Nat) (hp : Nat.ble 32 p = true) (h : kCcX3_leaf_1[p - 32]? = some b) : kb cX3_leaf p b := kin katcX3_leaf_1 rfl hp h
theorem dX3_leaf_0 : decode cX3_leaf 0 = .ok (.aload_n 0, 1) := dz_42 (kBcX3_leaf_0 0 rfl rfl)
theorem dX3_leaf_1 : decode cX3_leaf 1 = .ok (.iload_n 1, 1) := dz_27 (kBcX3_leaf_0 1 rfl rfl)
theorem dX3_leaf_2 : decode cX3_leaf 2 = .ok (.invokestatic 96, 3) := dz_184 (kBcX3_leaf_0 2 rfl rfl) (kBcX3_leaf_0 3 rfl rfl) (kBcX3_leaf_0 4 rfl rfl) rfl
theorem dX3_leaf_5 : decode cX3_leaf 5 = .ok (.iload_n 2, 1) := dz_28 (kBcX3_leaf_0 5 rfl rfl)
theorem dX3_leaf_6 : decode cX3_leaf 6 = .ok (.i2l, 1) := dz_133 (kBcX3_leaf_0 6 rfl rfl)
theorem dX3_leaf_7 : decode cX3_leaf 7 = .ok (.invokestatic 90, 3) := dz_184 (kBcX3_leaf_0 7 rfl rfl) (kBcX3_leaf_0 8 rfl rfl) (kBcX3_leaf_0 9 rfl rfl) rfl
theorem dX3_leaf_10 : decode cX3_leaf 10 = .ok (.ifCond .ne 10, 3) := dz_154 (kBcX3_leaf_0 10 rfl rfl) (kBcX3_leaf_0 11 rfl rfl) (kBcX3_leaf_0 12 rfl rfl) rfl
theorem dX3_leaf_13 : decode cX3_leaf 13 = .ok (.iload_n 3, 1) := dz_29 (kBcX3_leaf_0 13 rfl rfl)
theorem dX3_leaf_14 : decode cX3_leaf 14 = .ok (.invokestatic 100, 3) := dz_184 (kBcX3_leaf_0 14 rfl rfl) (kBcX3_leaf_0 15 rfl rfl) (kBcX3_leaf_0 16 rfl rfl) rfl
theorem dX3_leaf_17 : decode cX3_leaf 17 = .ok (.ifCond .eq 7, 3) := dz_153 (kBcX3_leaf_0 17 rfl rfl) (kBcX3_leaf_0 18 rfl rfl) (kBcX3_leaf_0 19 rfl rfl) rfl
theorem dX3_leaf_20 : decode cX3_leaf 20 = .ok (.iconst 1, 1) := dz_4 (kBcX3_leaf_0 20 rfl rfl)
theorem dX3_leaf_21 : decode cX3_leaf 21 = .ok (.goto 4, 3) := dz_167 (kBcX3_leaf_0 21 rfl rfl) (kBcX3_leaf_0 22 rfl rfl) (kBcX3_leaf_0 23 rfl rfl) rfl
theorem dX3_leaf_24 : decode cX3_leaf 24 = .ok (.iconst 0, 1) := dz_3 (kBcX3_leaf_0 24 rfl rfl)
theorem dX3_leaf_25 : decode cX3_leaf 25 = .ok (.invokevirtual 103, 3) := dz_182 (kBcX3_leaf_0 25 rfl rfl) (kBcX3_leaf_0 26 rfl rfl) (kBcX3_leaf_0 27 rfl rfl) rfl
theorem dX3_leaf_28 : decode cX3_leaf 28 = .ok (.ifCond .eq 7, 3) := dz_153 (kBcX3_leaf_0 28 rfl rfl) (kBcX3_leaf_0 29 rfl rfl) (kBcX3_leaf_0 30 rfl rfl) rfl
theorem dX3_leaf_31 : decode cX3_leaf 31 = .ok (.iconst 0, 1) := dz_3 (kBcX3_leaf_0 31 rfl rfl)
theorem dX3_leaf_32 : decode cX3_leaf 32 = .ok (.goto 10, 3) := dz_167 (kBcX3_leaf_1 32 rfl rfl) (kBcX3_leaf_1 33 rfl rfl) (kBcX3_leaf_1 34 rfl rfl) rfl
theorem dX3_leaf_35 : decode cX3_leaf 35 = .ok (.aload_n 0, 1) := dz_42 (kBcX3_leaf_1 35 rfl rfl)
theorem dX3_leaf_36 : decode cX3_leaf 36 = .ok (.iload_n 1, 1) := dz_27 (kBcX3_leaf_1 36 rfl rfl)
theorem dX3_leaf_37 : decode cX3_leaf 37 = .ok (.iload_n 2, 1) := dz_28 (kBcX3_leaf_1 37 rfl rfl)
theorem dX3_leaf_38 : decode cX3_leaf 38 = .ok (.iload_n 3, 1) := dz_29 (kBcX3_leaf_1 38 rfl rfl)
theorem dX3_leaf_39 : decode cX3_leaf 39 = .ok (.invokevirtual 93, 3) := dz_182 (kBcX3_leaf_1 39 rfl rfl) (kBcX3_leaf_1 40 rfl rfl) (kBcX3_leaf_1 41 rfl rfl) rfl
theorem dX3_leaf_42 : decode cX3_leaf 42 = .ok (.ireturn, 1) := dz_172 (kBcX3_leaf_1 42 rfl rfl)
def kCcX3_leafRound_0 : List Nat := [42, 27, 184, 0, 96, 28, 133, 184, 0, 90, 182, 0, 103, 153, 0, 5, 3, 172, 42, 27, 28, 29, 184, 0, 107, 182, 0, 93, 87, 29, 184, 0]
def kCcX3_leafRound_1 : List Nat := [107, 172]
def kRcX3_leafRound_2 : List Nat := []
def kRcX3_leafRound_1 : List Nat := kCcX3_leafRound_1 ++ kRcX3_leafRound_2
def kRcX3_leafRound_0 : List Nat := kCcX3_leafRound_0 ++ kRcX3_leafRound_1
theorem kRcX3_leafRound_eq : cX3_leafRound.data.toList.map UInt8.toNat = kRcX3_leafRound_0 := by decide +kernel
theorem katcX3_leafRound_0 (i : Nat) : (cX3_leafRound.data.toList.map UInt8.toNat)[0 + i]? = kRcX3_leafRound_0[i]? := by rw [kRcX3_leafRound_eq, Nat.zero_add]
theorem katcX3_leafRound_1 : ∀ i : Nat, (cX3_leafRound.data.toList.map UInt8.toNat)[32 + i]? = kRcX3_leafRound_1[i]? := kstep katcX3_leafRound_0 (C := kCcX3_leafRound_0) rfl rfl
theorem kBcX3_leafRound_0 {b : Nat} (p : Nat) (hp : Nat.ble 0 p = true) (h : kCcX3_leafRound_0[p - 0]? = some b) : kb cX3_leafRound p b := kin katcX3_leafRound_0 rfl hp h
theorem kBcX3_leafRound_1 {b : Nat} (p : Nat) (hp : Nat.ble 32 p = true) (h : kCcX3_leafRound_1[p - 32]? = some b) : kb cX3_leafRound p b := kin katcX3_leafRound_1 rfl hp h
theorem dX3_leafRound_0 : decode cX3_leafRound 0 = .ok (.aload_n 0, 1) := dz_42 (kBcX3_leafRound_0 0 rfl rfl)
theorem dX3_leafRound_1 : decode cX3_leafRound 1 = .ok (.iload_n 1, 1) := dz_27 (kBcX3_leafRound_0 1 rfl rfl)
theorem dX3_leafRound_2 : decode cX3_leafRound 2 = .ok (.invokestatic 96, 3) := dz_184 (kBcX3_leafRound_0 2 rfl rfl) (kBcX3_leafRound_0 3 rfl rfl) (kBcX3_leafRound_0 4 rfl rfl) rfl
theorem dX3_leafRound_5 : decode cX3_leafRound 5 = .ok (.iload_n 2, 1) := dz_28 (kBcX3_leafRound_0 5 rfl rfl)
theorem dX3_leafRound_6 : decode cX3_leafRound 6 = .ok (.i2l, 1) := dz_133 (kBcX3_leafRound_0 6 rfl rfl)
theorem dX3_leafRound_7 : decode cX3_leafRound 7 = .ok (.invokestatic 90, 3) := dz_184 (kBcX3_leafRound_0 7 rfl rfl) (kBcX3_leafRound_0 8 rfl rfl) (kBcX3_leafRound_0 9 rfl rfl) rfl
theorem dX3_leafRound_10 : decode cX3_leafRound 10 = .ok (.invokevirtual 103, 3) := dz_182 (kBcX3_leafRound_0 10 rfl rfl) (kBcX3_leafRound_0 11 rfl rfl) (kBcX3_leafRound_0 12 rfl rfl) rfl
theorem dX3_leafRound_13 : decode cX3_leafRound 13 = .ok (.ifCond .eq 5, 3) := dz_153 (kBcX3_leafRound_0 13 rfl rfl) (kBcX3_leafRound_0 14 rfl rfl) (kBcX3_leafRound_0 15 rfl rfl) rfl
theorem dX3_leafRound_16 : decode cX3_leafRound 16 = .ok (.iconst 0, 1) := dz_3 (kBcX3_leafRound_0 16 rfl rfl)
theorem dX3_leafRound_17 : decode cX3_leafRound 17 = .ok (.ireturn, 1) := dz_172 (kBcX3_leafRound_0 17 rfl rfl)
theorem dX3_leafRound_18 : decode cX3_leafRound 18 = .ok (.aload_n 0, 1) := dz_42 (kBcX3_leafRound_0 18 rfl rfl)
theorem dX3_leafRound_19 : decode cX3_leafRound 19 = .ok (.iload_n 1, 1) := dz_27 (kBcX3_leafRound_0 19 rfl rfl)
theorem dX3_leafRound_20 : decode cX3_leafRound 20 = .ok (.iload_n 2, 1) := dz_28 (kBcX3_leafRound_0 20 rfl rfl)
theorem dX3_leafRound_21 : decode cX3_leafRound 21 = .ok (.iload_n 3, 1) := dz_29 (kBcX3_leafRound_0 21 rfl rfl)
theorem dX3_leafRound_22 : decode cX3_leafRound 22 = .ok (.invokestatic 107, 3) := dz_184 (kBcX3_leafRound_0 22 rfl rfl) (kBcX3_leafRound_0 23 rfl rfl) (kBcX3_leafRound_0 24 rfl rfl) rfl
theorem dX3_leafRound_25 : decode cX3_leafRound 25 = .ok (.invokevirtual 93, 3) := dz_182 (kBcX3_leafRound_0 25 rfl rfl) (kBcX3_leafRound_0 26 rfl rfl) (kBcX3_leafRound_0 27 rfl rfl) rfl
theorem dX3_leafRound_28 : decode cX3_leafRound 28 = .ok (.pop, 1) := dz_87 (kBcX3_leafRound_0 28 rfl rfl)
theorem dX3_leafRound_29 : decode cX3_leafRound 29 = .ok (.iload_n 3, 1) := dz_29 (kBcX3_leafRound_0 29 rfl rfl)
theorem dX3_leafRound_30 : decode cX3_leafRound 30 = .ok (.invokestatic 107, 3) := dz_184 (kBcX3_leafRound_0 30 rfl rfl) (kBcX3_leafRound_0 31 rfl rfl) (kBcX3_leafRound_1 32 rfl rfl) rfl
theorem dX3_leafRound_33 : decode cX3_leafRound 33 = .ok (.ireturn, 1) := dz_172 (kBcX3_leafRound_1 33 rfl rfl)
def kCcX3_months_0 : List Nat := [42, 27, 184, 0, 96, 3, 182, 0, 103, 153, 0, 7, 3, 167, 0, 24, 42, 27, 42, 180, 0, 9, 27, 50, 184, 0, 110, 28, 133, 29, 184, 0]
def kCcX3_months_1 : List Nat := [113, 97, 182, 0, 117, 172]
def kRcX3_months_2 : List Nat := []
def kRcX3_months_1 : List Nat := kCcX3_months_1 ++ kRcX3_months_2
def kRcX3_months_0 : List Nat := kCcX3_months_0 ++ kRcX3_months_1
theorem kRcX3_months_eq : cX3_months.data.toList.map UInt8.toNat = kRcX3_months_0 := by decide +kernel
theorem katcX3_months_0 (i : Nat) : (cX3_months.data.toList.map UInt8.toNat)[0 + i]? = kRcX3_months_0[i]? := by rw [kRcX3_months_eq, Nat.zero_add]
theorem katcX3_months_1 : ∀ i : Nat, (cX3_months.data.toList.map UInt8.toNat)[32 + i]? = kRcX3_months_1[i]? := kstep katcX3_months_0 (C := kCcX3_months_0) rfl rfl
theorem kBcX3_months_0 {b : Nat} (p : Nat) (hp : Nat.ble 0 p = true) (h : kCcX3_months_0[p - 0]? = some b) : kb cX3_months p b := kin katcX3_months_0 rfl hp h
theorem kBcX3_months_1 {b : Nat} (p : Nat) (hp : Nat.ble 32 p = true) (h : kCcX3_months_1[p - 32]? = some b) : kb cX3_months p b := kin katcX3_months_1 rfl hp h
theorem dX3_months_0 : decode cX3_months 0 = .ok (.aload_n 0, 1) := dz_42 (kBcX3_months_0 0 rfl rfl)
theorem dX3_months_1 : decode cX3_months 1 = .ok (.iload_n 1, 1) := dz_27 (kBcX3_months_0 1 rfl rfl)
theorem dX3_months_2 : decode cX3_months 2 = .ok (.invokestatic 96, 3) := dz_184 (kBcX3_months_0 2 rfl rfl) (kBcX3_months_0 3 rfl rfl) (kBcX3_months_0 4 rfl rfl) rfl
theorem dX3_months_5 : decode cX3_months 5 = .ok (.iconst 0, 1) := dz_3 (kBcX3_months_0 5 rfl rfl)
theorem dX3_months_6 : decode cX3_months 6 = .ok (.invokevirtual 103, 3) := dz_182 (kBcX3_months_0 6 rfl rfl) (kBcX3_months_0 7 rfl rfl) (kBcX3_months_0 8 rfl rfl) rfl
theorem dX3_months_9 : decode cX3_months 9 = .ok (.ifCond .eq 7, 3) := dz_153 (kBcX3_months_0 9 rfl rfl) (kBcX3_months_0 10 rfl rfl) (kBcX3_months_0 11 rfl rfl) rfl
theorem dX3_months_12 : decode cX3_months 12 = .ok (.iconst 0, 1) := dz_3 (kBcX3_months_0 12 rfl rfl)
theorem dX3_months_13 : decode cX3_months 13 = .ok (.goto 24, 3) := dz_167 (kBcX3_months_0 13 rfl rfl) (kBcX3_months_0 14 rfl rfl) (kBcX3_months_0 15 rfl rfl) rfl
theorem dX3_months_16 : decode cX3_months 16 = .ok (.aload_n 0, 1) := dz_42 (kBcX3_months_0 16 rfl rfl)
theorem dX3_months_17 : decode cX3_months 17 = .ok (.iload_n 1, 1) := dz_27 (kBcX3_months_0 17 rfl rfl)
theorem dX3_months_18 : decode cX3_months 18 = .ok (.aload_n 0, 1) := dz_42 (kBcX3_months_0 18 rfl rfl)
theorem dX3_months_19 : decode cX3_months 19 = .ok (.getfield 9, 3) := dz_180 (kBcX3_months_0 19 rfl rfl) (kBcX3_months_0 20 rfl rfl) (kBcX3_months_0 21 rfl rfl) rfl
theorem dX3_months_22 : decode cX3_months 22 = .ok (.iload_n 1, 1) := dz_27 (kBcX3_months_0 22 rfl rfl)
theorem dX3_months_23 : decode cX3_months 23 = .ok (.aaload, 1) := dz_50 (kBcX3_months_0 23 rfl rfl)
theorem dX3_months_24 : decode cX3_months 24 = .ok (.invokestatic 110, 3) := dz_184 (kBcX3_months_0 24 rfl rfl) (kBcX3_months_0 25 rfl rfl) (kBcX3_months_0 26 rfl rfl) rfl
theorem dX3_months_27 : decode cX3_months 27 = .ok (.iload_n 2, 1) := dz_28 (kBcX3_months_0 27 rfl rfl)
theorem dX3_months_28 : decode cX3_months 28 = .ok (.i2l, 1) := dz_133 (kBcX3_months_0 28 rfl rfl)
theorem dX3_months_29 : decode cX3_months 29 = .ok (.iload_n 3, 1) := dz_29 (kBcX3_months_0 29 rfl rfl)
theorem dX3_months_30 : decode cX3_months 30 = .ok (.invokestatic 113, 3) := dz_184 (kBcX3_months_0 30 rfl rfl) (kBcX3_months_0 31 rfl rfl) (kBcX3_months_1 32 rfl rfl) rfl
theorem dX3_months_33 : decode cX3_months 33 = .ok (.ladd, 1) := dz_97 (kBcX3_months_1 33 rfl rfl)
theorem dX3_months_34 : decode cX3_months 34 = .ok (.invokevirtual 117, 3) := dz_182 (kBcX3_months_1 34 rfl rfl) (kBcX3_months_1 35 rfl rfl) (kBcX3_months_1 36 rfl rfl) rfl
theorem dX3_months_37 : decode cX3_months 37 = .ok (.ireturn, 1) := dz_172 (kBcX3_months_1 37 rfl rfl)
def kCcX3_years_0 : List Nat := [42, 27, 184, 0, 96, 3, 182, 0, 103, 153, 0, 7, 3, 167, 0, 28, 42, 27, 42, 180, 0, 9, 27, 50, 184, 0, 110, 20, 0, 38, 28, 133]
def kCcX3_years_1 : List Nat := [29, 184, 0, 113, 105, 97, 182, 0, 117, 172]
def kRcX3_years_2 : List Nat := []
def kRcX3_years_1 : List Nat := kCcX3_years_1 ++ kRcX3_years_2
def kRcX3_years_0 : List Nat := kCcX3_years_0 ++ kRcX3_years_1
theorem kRcX3_years_eq : cX3_years.data.toList.map UInt8.toNat = kRcX3_years_0 := by decide +kernel
theorem katcX3_years_0 (i : Nat) : (cX3_years.data.toList.map UInt8.toNat)[0 + i]? = kRcX3_years_0[i]? := by rw [kRcX3_years_eq, Nat.zero_add]
theorem katcX3_years_1 : ∀ i : Nat, (cX3_years.data.toList.map UInt8.toNat)[32 + i]? = kRcX3_years_1[i]? := kstep katcX3_years_0 (C := kCcX3_years_0) rfl rfl
theorem kBcX3_years_0 {b : Nat} (p : Nat) (hp : Nat.ble 0 p = true) (h : kCcX3_years_0[p - 0]? = some b) : kb cX3_years p b := kin katcX3_years_0 rfl hp h
theorem kBcX3_years_1 {b : Nat} (p : Nat) (hp : Nat.ble 32 p = true) (h : kCcX3_years_1[p - 32]? = some b) : kb cX3_years p b := kin katcX3_years_1 rfl hp h
theorem dX3_years_0 : decode cX3_years 0 = .ok (.aload_n 0, 1) := dz_42 (kBcX3_years_0 0 rfl rfl)
theorem dX3_years_1 : decode cX3_years 1 = .ok (.iload_n 1, 1) := dz_27 (kBcX3_years_0 1 rfl rfl)
theorem dX3_years_2 : decode cX3_years 2 = .ok (.invokestatic 96, 3) := dz_184 (kBcX3_years_0 2 rfl rfl) (kBcX3_years_0 3 rfl rfl) (kBcX3_years_0 4 rfl rfl) rfl
theorem dX3_years_5 : decode cX3_years 5 = .ok (.iconst 0, 1) := dz_3 (kBcX3_years_0 5 rfl rfl)
theorem dX3_years_6 : decode cX3_years 6 = .ok (.invokevirtual 103, 3) := dz_182 (kBcX3_years_0 6 rfl rfl) (kBcX3_years_0 7 rfl rfl) (kBcX3_years_0 8 rfl rfl) rfl
theorem dX3_years_9 : decode cX3_years 9 = .ok (.ifCond .eq 7, 3) := dz_153 (kBcX3_years_0 9 rfl rfl) (kBcX3_years_0 10 rfl rfl) (kBcX3_years_0 11 rfl rfl) rfl
theorem dX3_years_12 : decode cX3_years 12 = .ok (.iconst 0, 1) := dz_3 (kBcX3_years_0 12 rfl rfl)
theorem dX3_years_13 : decode cX3_years 13 = .ok (.goto 28, 3) := dz_167 (kBcX3_years_0 13 rfl rfl) (kBcX3_years_0 14 rfl rfl) (kBcX3_years_0 15 rfl rfl) rfl
theorem dX3_years_16 : decode cX3_years 16 = .ok (.aload_n 0, 1) := dz_42 (kBcX3_years_0 16 rfl rfl)
theorem dX3_years_17 : decode cX3_years 17 = .ok (.iload_n 1, 1) := dz_27 (kBcX3_years_0 17 rfl rfl)
theorem dX3_years_18 : decode cX3_years 18 = .ok (.aload_n 0, 1) := dz_42 (kBcX3_years_0 18 rfl rfl)
theorem dX3_years_19 : decode cX3_years 19 = .ok (.getfield 9, 3) := dz_180 (kBcX3_years_0 19 rfl rfl) (kBcX3_years_0 20 rfl rfl) (kBcX3_years_0 21 rfl rfl) rfl
theorem dX3_years_22 : decode cX3_years 22 = .ok (.iload_n 1, 1) := dz_27 (kBcX3_years_0 22 rfl rfl)
theorem dX3_years_23 : decode cX3_years 23 = .ok (.aaload, 1) := dz_50 (kBcX3_years_0 23 rfl rfl)
theorem dX3_years_24 : decode cX3_years 24 = .ok (.invokestatic 110, 3) := dz_184 (kBcX3_years_0 24 rfl rfl) (kBcX3_years_0 25 rfl rfl) (kBcX3_years_0 26 rfl rfl) rfl
theorem dX3_years_27 : decode cX3_years 27 = .ok (.ldc2_w 38, 3) := dz_20 (kBcX3_years_0 27 rfl rfl) (kBcX3_years_0 28 rfl rfl) (kBcX3_years_0 29 rfl rfl) rfl
theorem dX3_years_30 : decode cX3_years 30 = .ok (.iload_n 2, 1) := dz_28 (kBcX3_years_0 30 rfl rfl)
theorem dX3_years_31 : decode cX3_years 31 = .ok (.i2l, 1) := dz_133 (kBcX3_years_0 31 rfl rfl)
theorem dX3_years_32 : decode cX3_years 32 = .ok (.iload_n 3, 1) := dz_29 (kBcX3_years_1 32 rfl rfl)
theorem dX3_years_33 : decode cX3_years 33 = .ok (.invokestatic 113, 3) := dz_184 (kBcX3_years_1 33 rfl rfl) (kBcX3_years_1 34 rfl rfl) (kBcX3_years_1 35 rfl rfl) rfl
theorem dX3_years_36 : decode cX3_years 36 = .ok (.lmul, 1) := dz_105 (kBcX3_years_1 36 rfl rfl)
theorem dX3_years_37 : decode cX3_years 37 = .ok (.ladd, 1) := dz_97 (kBcX3_years_1 37 rfl rfl)
theorem dX3_years_38 : decode cX3_years 38 = .ok (.invokevirtual 117, 3) := dz_182 (kBcX3_years_1 38 rfl rfl) (kBcX3_years_1 39 rfl rfl) (kBcX3_years_1 40 rfl rfl) rfl
theorem dX3_years_41 : decode cX3_years 41 = .ok (.ireturn, 1) := dz_172 (kBcX3_years_1 41 rfl rfl)
def kCcX3_units_0 : List Nat := [42, 27, 184, 0, 96, 28, 133, 9, 20, 0, 121, 184, 0, 30, 154, 0, 7, 4, 167, 0, 4, 3, 182, 0, 103, 153, 0, 7, 3, 167, 0, 32]
def kCcX3_units_1 : List Nat := [42, 27, 42, 180, 0, 9, 27, 50, 184, 0, 110, 178, 0, 123, 28, 46, 133, 29, 133, 21, 4, 184, 0, 113, 105, 97, 182, 0, 117, 172]
def kRcX3_units_2 : List Nat := []
def kRcX3_units_1 : List Nat := kCcX3_units_1 ++ kRcX3_units_2
def kRcX3_units_0 : List Nat := kCcX3_units_0 ++ kRcX3_units_1
theorem kRcX3_units_eq : cX3_units.data.toList.map UInt8.toNat = kRcX3_units_0 := by decide +kernel
theorem katcX3_units_0 (i : Nat) : (cX3_units.data.toList.map UInt8.toNat)[0 + i]? = kRcX3_units_0[i]? := by rw [kRcX3_units_eq, Nat.zero_add]
theorem katcX3_units_1 : ∀ i : Nat, (cX3_units.data.toList.map UInt8.toNat)[32 + i]? = kRcX3_units_1[i]? := kstep katcX3_units_0 (C := kCcX3_units_0) rfl rfl
theorem kBcX3_units_0 {b : Nat} (p : Nat) (hp : Nat.ble 0 p = true) (h : kCcX3_units_0[p - 0]? = some b) : kb cX3_units p b := kin katcX3_units_0 rfl hp h
theorem kBcX3_units_1 {b : Nat} (p : Nat) (hp : Nat.ble 32 p = true) (h : kCcX3_units_1[p - 32]? = some b) : kb cX3_units p b := kin katcX3_units_1 rfl hp h
theorem dX3_units_0 : decode cX3_units 0 = .ok (.aload_n 0, 1) := dz_42 (kBcX3_units_0 0 rfl rfl)
theorem dX3_units_1 : decode cX3_units 1 = .ok (.iload_n 1, 1) := dz_27 (kBcX3_units_0 1 rfl rfl)
theorem dX3_units_2 : decode cX3_units 2 = .ok (.invokestatic 96, 3) := dz_184 (kBcX3_units_0 2 rfl rfl) (kBcX3_units_0 3 rfl rfl) (kBcX3_units_0 4 rfl rfl) rfl
theorem dX3_units_5 : decode cX3_units 5 = .ok (.iload_n 2, 1) := dz_28 (kBcX3_units_0 5 rfl rfl)
theorem dX3_units_6 : decode cX3_units 6 = .ok (.i2l, 1) := dz_133 (kBcX3_units_0 6 rfl rfl)
theorem dX3_units_7 : decode cX3_units 7 = .ok (.lconst 0, 1) := dz_9 (kBcX3_units_0 7 rfl rfl)
theorem dX3_units_8 : decode cX3_units 8 = .ok (.ldc2_w 121, 3) := dz_20 (kBcX3_units_0 8 rfl rfl) (kBcX3_units_0 9 rfl rfl) (kBcX3_units_0 10 rfl rfl) rfl
theorem dX3_units_11 : decode cX3_units 11 = .ok (.invokestatic 30, 3) := dz_184 (kBcX3_units_0 11 rfl rfl) (kBcX3_units_0 12 rfl rfl) (kBcX3_units_0 13 rfl rfl) rfl
theorem dX3_units_14 : decode cX3_units 14 = .ok (.ifCond .ne 7, 3) := dz_154 (kBcX3_units_0 14 rfl rfl) (kBcX3_units_0 15 rfl rfl) (kBcX3_units_0 16 rfl rfl) rfl
theorem dX3_units_17 : decode cX3_units 17 = .ok (.iconst 1, 1) := dz_4 (kBcX3_units_0 17 rfl rfl)
theorem dX3_units_18 : decode cX3_units 18 = .ok (.goto 4, 3) := dz_167 (kBcX3_units_0 18 rfl rfl) (kBcX3_units_0 19 rfl rfl) (kBcX3_units_0 20 rfl rfl) rfl
theorem dX3_units_21 : decode cX3_units 21 = .ok (.iconst 0, 1) := dz_3 (kBcX3_units_0 21 rfl rfl)
theorem dX3_units_22 : decode cX3_units 22 = .ok (.invokevirtual 103, 3) := dz_182 (kBcX3_units_0 22 rfl rfl) (kBcX3_units_0 23 rfl rfl) (kBcX3_units_0 24 rfl rfl) rfl
theorem dX3_units_25 : decode cX3_units 25 = .ok (.ifCond .eq 7, 3) := dz_153 (kBcX3_units_0 25 rfl rfl) (kBcX3_units_0 26 rfl rfl) (kBcX3_units_0 27 rfl rfl) rfl
theorem dX3_units_28 : decode cX3_units 28 = .ok (.iconst 0, 1) := dz_3 (kBcX3_units_0 28 rfl rfl)
theorem dX3_units_29 : decode cX3_units 29 = .ok (.goto 32, 3) := dz_167 (kBcX3_units_0 29 rfl rfl) (kBcX3_units_0 30 rfl rfl) (kBcX3_units_0 31 rfl rfl) rfl
theorem dX3_units_32 : decode cX3_units 32 = .ok (.aload_n 0, 1) := dz_42 (kBcX3_units_1 32 rfl rfl)
theorem dX3_units_33 : decode cX3_units 33 = .ok (.iload_n 1, 1) := dz_27 (kBcX3_units_1 33 rfl rfl)
theorem dX3_units_34 : decode cX3_units 34 = .ok (.aload_n 0, 1) := dz_42 (kBcX3_units_1 34 rfl rfl)
theorem dX3_units_35 : decode cX3_units 35 = .ok (.getfield 9, 3) := dz_180 (kBcX3_units_1 35 rfl rfl) (kBcX3_units_1 36 rfl rfl) (kBcX3_units_1 37 rfl rfl) rfl
theorem dX3_units_38 : decode cX3_units 38 = .ok (.iload_n 1, 1) := dz_27 (kBcX3_units_1 38 rfl rfl)
theorem dX3_units_39 : decode cX3_units 39 = .ok (.aaload, 1) := dz_50 (kBcX3_units_1 39 rfl rfl)
theorem dX3_units_40 : decode cX3_units 40 = .ok (.invokestatic 110, 3) := dz_184 (kBcX3_units_1 40 rfl rfl) (kBcX3_units_1 41 rfl rfl) (kBcX3_units_1 42 rfl rfl) rfl
theorem dX3_units_43 : decode cX3_units 43 = .ok (.getstatic 123, 3) := dz_178 (kBcX3_units_1 43 rfl rfl) (kBcX3_units_1 44 rfl rfl) (kBcX3_units_1 45 rfl rfl) rfl
theorem dX3_units_46 : decode cX3_units 46 = .ok (.iload_n 2, 1) := dz_28 (kBcX3_units_1 46 rfl rfl)
theorem dX3_units_47 : decode cX3_units 47 = .ok (.iaload, 1) := dz_46 (kBcX3_units_1 47 rfl rfl)
theorem dX3_units_48 : decode cX3_units 48 = .ok (.i2l, 1) := dz_133 (kBcX3_units_1 48 rfl rfl)
theorem dX3_units_49 : decode cX3_units 49 = .ok (.iload_n 3, 1) := dz_29 (kBcX3_units_1 49 rfl rfl)
theorem dX3_units_50 : decode cX3_units 50 = .ok (.i2l, 1) := dz_133 (kBcX3_units_1 50 rfl rfl)
theorem dX3_units_51 : decode cX3_units 51 = .ok (.iload 4, 2) := dz_21 (kBcX3_units_1 51 rfl rfl) (kBcX3_units_1 52 rfl rfl)
theorem dX3_units_53 : decode cX3_units 53 = .ok (.invokestatic 113, 3) := dz_184 (kBcX3_units_1 53 rfl rfl) (kBcX3_units_1 54 rfl rfl) (kBcX3_units_1 55 rfl rfl) rfl
theorem dX3_units_56 : decode cX3_units 56 = .ok (.lmul, 1) := dz_105 (kBcX3_units_1 56 rfl rfl)
theorem dX3_units_57 : decode cX3_units 57 = .ok (.ladd, 1) := dz_97 (kBcX3_units_1 57 rfl rfl)
theorem dX3_units_58 : decode cX3_units 58 = .ok (.invokevirtual 117, 3) := dz_182 (kBcX3_units_1 58 rfl rfl) (kBcX3_units_1 59 rfl rfl) (kBcX3_units_1 60 rfl rfl) rfl
theorem dX3_units_61 : decode cX3_units 61 = .ok (.ireturn, 1) := dz_172 (kBcX3_units_1 61 rfl rfl)
def kCcX3_both_0 : List Nat := [42, 27, 184, 0, 96, 28, 133, 20, 0, 126, 20, 0, 128, 184, 0, 30, 153, 0, 17, 29, 133, 20, 0, 126, 20, 0, 128, 184, 0, 30, 154, 0]
def kCcX3_both_1 : List Nat := [7, 4, 167, 0, 4, 3, 182, 0, 103, 153, 0, 5, 3, 172, 42, 27, 42, 180, 0, 9, 27, 50, 184, 0, 110, 20, 0, 38, 28, 133, 105, 29]
def kCcX3_both_2 : List Nat := [133, 97, 21, 4, 184, 0, 113, 97, 182, 0, 117, 172]
def kRcX3_both_3 : List Nat := []
def kRcX3_both_2 : List Nat := kCcX3_both_2 ++ kRcX3_both_3
def kRcX3_both_1 : List Nat := kCcX3_both_1 ++ kRcX3_both_2
def kRcX3_both_0 : List Nat := kCcX3_both_0 ++ kRcX3_both_1
theorem kRcX3_both_eq : cX3_both.data.toList.map UInt8.toNat = kRcX3_both_0 := by decide +kernel
theorem katcX3_both_0 (i : Nat) : (cX3_both.data.toList.map UInt8.toNat)[0 + i]? = kRcX3_both_0[i]? := by rw [kRcX3_both_eq, Nat.zero_add]
theorem katcX3_both_1 : ∀ i : Nat, (cX3_both.data.toList.map UInt8.toNat)[32 + i]? = kRcX3_both_1[i]? := kstep katcX3_both_0 (C := kCcX3_both_0) rfl rfl
theorem katcX3_both_2 : ∀ i : Nat, (cX3_both.data.toList.map UInt8.toNat)[64 + i]? = kRcX3_both_2[i]? := kstep katcX3_both_1 (C := kCcX3_both_1) rfl rfl
theorem kBcX3_both_0 {b : Nat} (p : Nat) (hp : Nat.ble 0 p = true) (h : kCcX3_both_0[p - 0]? = some b) : kb cX3_both p b := kin katcX3_both_0 rfl hp h
theorem kBcX3_both_1 {b : Nat} (p : Nat) (hp : Nat.ble 32 p = true) (h : kCcX3_both_1[p - 32]? = some b) : kb cX3_both p b := kin katcX3_both_1 rfl hp h
theorem kBcX3_both_2 {b : Nat} (p : Nat) (hp : Nat.ble 64 p = true) (h : kCcX3_both_2[p - 64]? = some b) : kb cX3_both p b := kin katcX3_both_2 rfl hp h
theorem dX3_both_0 : decode cX3_both 0 = .ok (.aload_n 0, 1) := dz_42 (kBcX3_both_0 0 rfl rfl)
theorem dX3_both_1 : decode cX3_both 1 = .ok (.iload_n 1, 1) := dz_27 (kBcX3_both_0 1 rfl rfl)
theorem dX3_both_2 : decode cX3_both 2 = .ok (.invokestatic 96, 3) := dz_184 (kBcX3_both_0 2 rfl rfl) (kBcX3_both_0 3 rfl rfl) (kBcX3_both_0 4 rfl rfl) rfl
theorem dX3_both_5 : decode cX3_both 5 = .ok (.iload_n 2, 1) := dz_28 (kBcX3_both_0 5 rfl rfl)
theorem dX3_both_6 : decode cX3_both 6 = .ok (.i2l, 1) := dz_133 (kBcX3_both_0 6 rfl rfl)
theorem dX3_both_7 : decode cX3_both 7 = .ok (.ldc2_w 126, 3) := dz_20 (kBcX3_both_0 7 rfl rfl) (kBcX3_both_0 8 rfl rfl) (kBcX3_both_0 9 rfl rfl) rfl
theorem dX3_both_10 : decode cX3_both 10 = .ok (.ldc2_w 128, 3) := dz_20 (kBcX3_both_0 10 rfl rfl) (kBcX3_both_0 11 rfl rfl) (kBcX3_both_0 12 rfl rfl) rfl
theorem dX3_both_13 : decode cX3_both 13 = .ok (.invokestatic 30, 3) := dz_184 (kBcX3_both_0 13 rfl rfl) (kBcX3_both_0 14 rfl rfl) (kBcX3_both_0 15 rfl rfl) rfl
theorem dX3_both_16 : decode cX3_both 16 = .ok (.ifCond .eq 17, 3) := dz_153 (kBcX3_both_0 16 rfl rfl) (kBcX3_both_0 17 rfl rfl) (kBcX3_both_0 18 rfl rfl) rfl
theorem dX3_both_19 : decode cX3_both 19 = .ok (.iload_n 3, 1) := dz_29 (kBcX3_both_0 19 rfl rfl)
theorem dX3_both_20 : decode cX3_both 20 = .ok (.i2l, 1) := dz_133 (kBcX3_both_0 20 rfl rfl)
theorem dX3_both_21 : decode cX3_both 21 = .ok (.ldc2_w 126, 3) := dz_20 (kBcX3_both_0 21 rfl rfl) (kBcX3_both_0 22 rfl rfl) (kBcX3_both_0 23 rfl rfl) rfl
theorem dX3_both_24 : decode cX3_both 24 = .ok (.ldc2_w 128, 3) := dz_20 (kBcX3_both_0 24 rfl rfl) (kBcX3_both_0 25 rfl rfl) (kBcX3_both_0 26 rfl rfl) rfl
theorem dX3_both_27 : decode cX3_both 27 = .ok (.invokestatic 30, 3) := dz_184 (kBcX3_both_0 27 rfl rfl) (kBcX3_both_0 28 rfl rfl) (kBcX3_both_0 29 rfl rfl) rfl
theorem dX3_both_30 : decode cX3_both 30 = .ok (.ifCond .ne 7, 3) := dz_154 (kBcX3_both_0 30 rfl rfl) (kBcX3_both_0 31 rfl rfl) (kBcX3_both_1 32 rfl rfl) rfl
theorem dX3_both_33 : decode cX3_both 33 = .ok (.iconst 1, 1) := dz_4 (kBcX3_both_1 33 rfl rfl)
theorem dX3_both_34 : decode cX3_both 34 = .ok (.goto 4, 3) := dz_167 (kBcX3_both_1 34 rfl rfl) (kBcX3_both_1 35 rfl rfl) (kBcX3_both_1 36 rfl rfl) rfl
theorem dX3_both_37 : decode cX3_both 37 = .ok (.iconst 0, 1) := dz_3 (kBcX3_both_1 37 rfl rfl)
theorem dX3_both_38 : decode cX3_both 38 = .ok (.invokevirtual 103, 3) := dz_182 (kBcX3_both_1 38 rfl rfl) (kBcX3_both_1 39 rfl rfl) (kBcX3_both_1 40 rfl rfl) rfl
theorem dX3_both_41 : decode cX3_both 41 = .ok (.ifCond .eq 5, 3) := dz_153 (kBcX3_both_1 41 rfl rfl) (kBcX3_both_1 42 rfl rfl) (kBcX3_both_1 43 rfl rfl) rfl
theorem dX3_both_44 : decode cX3_both 44 = .ok (.iconst 0, 1) := dz_3 (kBcX3_both_1 44 rfl rfl)
theorem dX3_both_45 : decode cX3_both 45 = .ok (.ireturn, 1) := dz_172 (kBcX3_both_1 45 rfl rfl)
theorem dX3_both_46 : decode cX3_both 46 = .ok (.aload_n 0, 1) := dz_42 (kBcX3_both_1 46 rfl rfl)
theorem dX3_both_47 : decode cX3_both 47 = .ok (.iload_n 1, 1) := dz_27 (kBcX3_both_1 47 rfl rfl)
theorem dX3_both_48 : decode cX3_both 48 = .ok (.aload_n 0, 1) := dz_42 (kBcX3_both_1 48 rfl rfl)
theorem dX3_both_49 : decode cX3_both 49 = .ok (.getfield 9, 3) := dz_180 (kBcX3_both_1 49 rfl rfl) (kBcX3_both_1 50 rfl rfl) (kBcX3_both_1 51 rfl rfl) rfl
theorem dX3_both_52 : decode cX3_both 52 = .ok (.iload_n 1, 1) := dz_27 (kBcX3_both_1 52 rfl rfl)
theorem dX3_both_53 : decode cX3_both 53 = .ok (.aaload, 1) := dz_50 (kBcX3_both_1 53 rfl rfl)
theorem dX3_both_54 : decode cX3_both 54 = .ok (.invokestatic 110, 3) := dz_184 (kBcX3_both_1 54 rfl rfl) (kBcX3_both_1 55 rfl rfl) (kBcX3_both_1 56 rfl rfl) rfl
theorem dX3_both_57 : decode cX3_both 57 = .ok (.ldc2_w 38, 3) := dz_20 (kBcX3_both_1 57 rfl rfl) (kBcX3_both_1 58 rfl rfl) (kBcX3_both_1 59 rfl rfl) rfl
theorem dX3_both_60 : decode cX3_both 60 = .ok (.iload_n 2, 1) := dz_28 (kBcX3_both_1 60 rfl rfl)
theorem dX3_both_61 : decode cX3_both 61 = .ok (.i2l, 1) := dz_133 (kBcX3_both_1 61 rfl rfl)
theorem dX3_both_62 : decode cX3_both 62 = .ok (.lmul, 1) := dz_105 (kBcX3_both_1 62 rfl rfl)
theorem dX3_both_63 : decode cX3_both 63 = .ok (.iload_n 3, 1) := dz_29 (kBcX3_both_1 63 rfl rfl)
theorem dX3_both_64 : decode cX3_both 64 = .ok (.i2l, 1) := dz_133 (kBcX3_both_2 64 rfl rfl)
theorem dX3_both_65 : decode cX3_both 65 = .ok (.ladd, 1) := dz_97 (kBcX3_both_2 65 rfl rfl)
theorem dX3_both_66 : decode cX3_both 66 = .ok (.iload 4, 2) := dz_21 (kBcX3_both_2 66 rfl rfl) (kBcX3_both_2 67 rfl rfl)
theorem dX3_both_68 : decode cX3_both 68 = .ok (.invokestatic 113, 3) := dz_184 (kBcX3_both_2 68 rfl rfl) (kBcX3_both_2 69 rfl rfl) (kBcX3_both_2 70 rfl rfl) rfl
theorem dX3_both_71 : decode cX3_both 71 = .ok (.ladd, 1) := dz_97 (kBcX3_both_2 71 rfl rfl)
theorem dX3_both_72 : decode cX3_both 72 = .ok (.invokevirtual 117, 3) := dz_182 (kBcX3_both_2 72 rfl rfl) (kBcX3_both_2 73 rfl rfl) (kBcX3_both_2 74 rfl rfl) rfl
theorem dX3_both_75 : decode cX3_both 75 = .ok (.ireturn, 1) := dz_172 (kBcX3_both_2 75 rfl rfl)
def kCcX3_leafYear_0 : List Nat := [42, 27, 184, 0, 96, 28, 133, 184, 0, 90, 182, 0, 103, 153, 0, 5, 3, 172, 42, 180, 0, 9, 27, 50, 3, 46, 62, 42, 27, 28, 42, 180]
def kCcX3_leafYear_1 : List Nat := [0, 9, 27, 50, 4, 46, 182, 0, 93, 87, 29, 172]
def kRcX3_leafYear_2 : List Nat := []
def kRcX3_leafYear_1 : List Nat := kCcX3_leafYear_1 ++ kRcX3_leafYear_2
def kRcX3_leafYear_0 : List Nat := kCcX3_leafYear_0 ++ kRcX3_leafYear_1
theorem kRcX3_leafYear_eq : cX3_leafYear.data.toList.map UInt8.toNat = kRcX3_leafYear_0 := by decide +kernel
theorem katcX3_leafYear_0 (i : Nat) : (cX3_leafYear.data.toList.map UInt8.toNat)[0 + i]? = kRcX3_leafYear_0[i]? := by rw [kRcX3_leafYear_eq, Nat.zero_add]
theorem katcX3_leafYear_1 : ∀ i : Nat, (cX3_leafYear.data.toList.map UInt8.toNat)[32 + i]? = kRcX3_leafYear_1[i]? := kstep katcX3_leafYear_0 (C := kCcX3_leafYear_0) rfl rfl
theorem kBcX3_leafYear_0 {b : Nat} (p : Nat) (hp : Nat.ble 0 p = true) (h : kCcX3_leafYear_0[p - 0]? = some b) : kb cX3_leafYear p b := kin katcX3_leafYear_0 rfl hp h
theorem kBcX3_leafYear_1 {b : Nat} (p : Nat) (hp : Nat.ble 32 p = true) (h : kCcX3_leafYear_1[p - 32]? = some b) : kb cX3_leafYear p b := kin katcX3_leafYear_1 rfl hp h
theorem dX3_leafYear_0 : decode cX3_leafYear 0 = .ok (.aload_n 0, 1) := dz_42 (kBcX3_leafYear_0 0 rfl rfl)
theorem dX3_leafYear_1 : decode cX3_leafYear 1 = .ok (.iload_n 1, 1) := dz_27 (kBcX3_leafYear_0 1 rfl rfl)
theorem dX3_leafYear_2 : decode cX3_leafYear 2 = .ok (.invokestatic 96, 3) := dz_184 (kBcX3_leafYear_0 2 rfl rfl) (kBcX3_leafYear_0 3 rfl rfl) (kBcX3_leafYear_0 4 rfl rfl) rfl
theorem dX3_leafYear_5 : decode cX3_leafYear 5 = .ok (.iload_n 2, 1) := dz_28 (kBcX3_leafYear_0 5 rfl rfl)
theorem dX3_leafYear_6 : decode cX3_leafYear 6 = .ok (.i2l, 1) := dz_133 (kBcX3_leafYear_0 6 rfl rfl)
theorem dX3_leafYear_7 : decode cX3_leafYear 7 = .ok (.invokestatic 90, 3) := dz_184 (kBcX3_leafYear_0 7 rfl rfl) (kBcX3_leafYear_0 8 rfl rfl) (kBcX3_leafYear_0 9 rfl rfl) rfl
theorem dX3_leafYear_10 : decode cX3_leafYear 10 = .ok (.invokevirtual 103, 3) := dz_182 (kBcX3_leafYear_0 10 rfl rfl) (kBcX3_leafYear_0 11 rfl rfl) (kBcX3_leafYear_0 12 rfl rfl) rfl
theorem dX3_leafYear_13 : decode cX3_leafYear 13 = .ok (.ifCond .eq 5, 3) := dz_153 (kBcX3_leafYear_0 13 rfl rfl) (kBcX3_leafYear_0 14 rfl rfl) (kBcX3_leafYear_0 15 rfl rfl) rfl
theorem dX3_leafYear_16 : decode cX3_leafYear 16 = .ok (.iconst 0, 1) := dz_3 (kBcX3_leafYear_0 16 rfl rfl)
theorem dX3_leafYear_17 : decode cX3_leafYear 17 = .ok (.ireturn, 1) := dz_172 (kBcX3_leafYear_0 17 rfl rfl)
theorem dX3_leafYear_18 : decode cX3_leafYear 18 = .ok (.aload_n 0, 1) := dz_42 (kBcX3_leafYear_0 18 rfl rfl)
theorem dX3_leafYear_19 : decode cX3_leafYear 19 = .ok (.getfield 9, 3) := dz_180 (kBcX3_leafYear_0 19 rfl rfl) (kBcX3_leafYear_0 20 rfl rfl) (kBcX3_leafYear_0 21 rfl rfl) rfl
theorem dX3_leafYear_22 : decode cX3_leafYear 22 = .ok (.iload_n 1, 1) := dz_27 (kBcX3_leafYear_0 22 rfl rfl)
theorem dX3_leafYear_23 : decode cX3_leafYear 23 = .ok (.aaload, 1) := dz_50 (kBcX3_leafYear_0 23 rfl rfl)
theorem dX3_leafYear_24 : decode cX3_leafYear 24 = .ok (.iconst 0, 1) := dz_3 (kBcX3_leafYear_0 24 rfl rfl)
theorem dX3_leafYear_25 : decode cX3_leafYear 25 = .ok (.iaload, 1) := dz_46 (kBcX3_leafYear_0 25 rfl rfl)
theorem dX3_leafYear_26 : decode cX3_leafYear 26 = .ok (.istore_n 3, 1) := dz_62 (kBcX3_leafYear_0 26 rfl rfl)
theorem dX3_leafYear_27 : decode cX3_leafYear 27 = .ok (.aload_n 0, 1) := dz_42 (kBcX3_leafYear_0 27 rfl rfl)
theorem dX3_leafYear_28 : decode cX3_leafYear 28 = .ok (.iload_n 1, 1) := dz_27 (kBcX3_leafYear_0 28 rfl rfl)
theorem dX3_leafYear_29 : decode cX3_leafYear 29 = .ok (.iload_n 2, 1) := dz_28 (kBcX3_leafYear_0 29 rfl rfl)
theorem dX3_leafYear_30 : decode cX3_leafYear 30 = .ok (.aload_n 0, 1) := dz_42 (kBcX3_leafYear_0 30 rfl rfl)
theorem dX3_leafYear_31 : decode cX3_leafYear 31 = .ok (.getfield 9, 3) := dz_180 (kBcX3_leafYear_0 31 rfl rfl) (kBcX3_leafYear_1 32 rfl rfl) (kBcX3_leafYear_1 33 rfl rfl) rfl
theorem dX3_leafYear_34 : decode cX3_leafYear 34 = .ok (.iload_n 1, 1) := dz_27 (kBcX3_leafYear_1 34 rfl rfl)
theorem dX3_leafYear_35 : decode cX3_leafYear 35 = .ok (.aaload, 1) := dz_50 (kBcX3_leafYear_1 35 rfl rfl)
theorem dX3_leafYear_36 : decode cX3_leafYear 36 = .ok (.iconst 1, 1) := dz_4 (kBcX3_leafYear_1 36 rfl rfl)
theorem dX3_leafYear_37 : decode cX3_leafYear 37 = .ok (.iaload, 1) := dz_46 (kBcX3_leafYear_1 37 rfl rfl)
theorem dX3_leafYear_38 : decode cX3_leafYear 38 = .ok (.invokevirtual 93, 3) := dz_182 (kBcX3_leafYear_1 38 rfl rfl) (kBcX3_leafYear_1 39 rfl rfl) (kBcX3_leafYear_1 40 rfl rfl) rfl
theorem dX3_leafYear_41 : decode cX3_leafYear 41 = .ok (.pop, 1) := dz_87 (kBcX3_leafYear_1 41 rfl rfl)
theorem dX3_leafYear_42 : decode cX3_leafYear 42 = .ok (.iload_n 3, 1) := dz_29 (kBcX3_leafYear_1 42 rfl rfl)
theorem dX3_leafYear_43 : decode cX3_leafYear 43 = .ok (.ireturn, 1) := dz_172 (kBcX3_leafYear_1 43 rfl rfl)
def kCcX3_leafMonth_0 : List Nat := [42, 27, 184, 0, 96, 28, 184, 0, 100, 182, 0, 103, 153, 0, 5, 3, 172, 42, 180, 0, 9, 27, 50, 4, 46, 62, 42, 27, 42, 180, 0, 9]
def kCcX3_leafMonth_1 : List Nat := [27, 50, 3, 46, 28, 182, 0, 93, 87, 29, 172]
def kRcX3_leafMonth_2 : List Nat := []
def kRcX3_leafMonth_1 : List Nat := kCcX3_leafMonth_1 ++ kRcX3_leafMonth_2
def kRcX3_leafMonth_0 : List Nat := kCcX3_leafMonth_0 ++ kRcX3_leafMonth_1
theorem kRcX3_leafMonth_eq : cX3_leafMonth.data.toList.map UInt8.toNat = kRcX3_leafMonth_0 := by decide +kernel
theorem katcX3_leafMonth_0 (i : Nat) : (cX3_leafMonth.data.toList.map UInt8.toNat)[0 + i]? = kRcX3_leafMonth_0[i]? := by rw [kRcX3_leafMonth_eq, Nat.zero_add]
theorem katcX3_leafMonth_1 : ∀ i : Nat, (cX3_leafMonth.data.toList.map UInt8.toNat)[32 + i]? = kRcX3_leafMonth_1[i]? := kstep katcX3_leafMonth_0 (C := kCcX3_leafMonth_0) rfl rfl
theorem kBcX3_leafMonth_0 {b : Nat} (p : Nat) (hp : Nat.ble 0 p = true) (h : kCcX3_leafMonth_0[p - 0]? = some b) : kb cX3_leafMonth p b := kin katcX3_leafMonth_0 rfl hp h
theorem kBcX3_leafMonth_1 {b : Nat} (p : Nat) (hp : Nat.ble 32 p = true) (h : kCcX3_leafMonth_1[p - 32]? = some b) : kb cX3_leafMonth p b := kin katcX3_leafMonth_1 rfl hp h
theorem dX3_leafMonth_0 : decode cX3_leafMonth 0 = .ok (.aload_n 0, 1) := dz_42 (kBcX3_leafMonth_0 0 rfl rfl)
theorem dX3_leafMonth_1 : decode cX3_leafMonth 1 = .ok (.iload_n 1, 1) := dz_27 (kBcX3_leafMonth_0 1 rfl rfl)
theorem dX3_leafMonth_2 : decode cX3_leafMonth 2 = .ok (.invokestatic 96, 3) := dz_184 (kBcX3_leafMonth_0 2 rfl rfl) (kBcX3_leafMonth_0 3 rfl rfl) (kBcX3_leafMonth_0 4 rfl rfl) rfl
theorem dX3_leafMonth_5 : decode cX3_leafMonth 5 = .ok (.iload_n 2, 1) := dz_28 (kBcX3_leafMonth_0 5 rfl rfl)
theorem dX3_leafMonth_6 : decode cX3_leafMonth 6 = .ok (.invokestatic 100, 3) := dz_184 (kBcX3_leafMonth_0 6 rfl rfl) (kBcX3_leafMonth_0 7 rfl rfl) (kBcX3_leafMonth_0 8 rfl rfl) rfl
theorem dX3_leafMonth_9 : decode cX3_leafMonth 9 = .ok (.invokevirtual 103, 3) := dz_182 (kBcX3_leafMonth_0 9 rfl rfl) (kBcX3_leafMonth_0 10 rfl rfl) (kBcX3_leafMonth_0 11 rfl rfl) rfl
theorem dX3_leafMonth_12 : decode cX3_leafMonth 12 = .ok (.ifCond .eq 5, 3) := dz_153 (kBcX3_leafMonth_0 12 rfl rfl) (kBcX3_leafMonth_0 13 rfl rfl) (kBcX3_leafMonth_0 14 rfl rfl) rfl
theorem dX3_leafMonth_15 : decode cX3_leafMonth 15 = .ok (.iconst 0, 1) := dz_3 (kBcX3_leafMonth_0 15 rfl rfl)
theorem dX3_leafMonth_16 : decode cX3_leafMonth 16 = .ok (.ireturn, 1) := dz_172 (kBcX3_leafMonth_0 16 rfl rfl)
theorem dX3_leafMonth_17 : decode cX3_leafMonth 17 = .ok (.aload_n 0, 1) := dz_42 (kBcX3_leafMonth_0 17 rfl rfl)
theorem dX3_leafMonth_18 : decode cX3_leafMonth 18 = .ok (.getfield 9, 3) := dz_180 (kBcX3_leafMonth_0 18 rfl rfl) (kBcX3_leafMonth_0 19 rfl rfl) (kBcX3_leafMonth_0 20 rfl rfl) rfl
theorem dX3_leafMonth_21 : decode cX3_leafMonth 21 = .ok (.iload_n 1, 1) := dz_27 (kBcX3_leafMonth_0 21 rfl rfl)
theorem dX3_leafMonth_22 : decode cX3_leafMonth 22 = .ok (.aaload, 1) := dz_50 (kBcX3_leafMonth_0 22 rfl rfl)
theorem dX3_leafMonth_23 : decode cX3_leafMonth 23 = .ok (.iconst 1, 1) := dz_4 (kBcX3_leafMonth_0 23 rfl rfl)
theorem dX3_leafMonth_24 : decode cX3_leafMonth 24 = .ok (.iaload, 1) := dz_46 (kBcX3_leafMonth_0 24 rfl rfl)
theorem dX3_leafMonth_25 : decode cX3_leafMonth 25 = .ok (.istore_n 3, 1) := dz_62 (kBcX3_leafMonth_0 25 rfl rfl)
theorem dX3_leafMonth_26 : decode cX3_leafMonth 26 = .ok (.aload_n 0, 1) := dz_42 (kBcX3_leafMonth_0 26 rfl rfl)
theorem dX3_leafMonth_27 : decode cX3_leafMonth 27 = .ok (.iload_n 1, 1) := dz_27 (kBcX3_leafMonth_0 27 rfl rfl)
theorem dX3_leafMonth_28 : decode cX3_leafMonth 28 = .ok (.aload_n 0, 1) := dz_42 (kBcX3_leafMonth_0 28 rfl rfl)
theorem dX3_leafMonth_29 : decode cX3_leafMonth 29 = .ok (.getfield 9, 3) := dz_180 (kBcX3_leafMonth_0 29 rfl rfl) (kBcX3_leafMonth_0 30 rfl rfl) (kBcX3_leafMonth_0 31 rfl rfl) rfl
theorem dX3_leafMonth_32 : decode cX3_leafMonth 32 = .ok (.iload_n 1, 1) := dz_27 (kBcX3_leafMonth_1 32 rfl rfl)
theorem dX3_leafMonth_33 : decode cX3_leafMonth 33 = .ok (.aaload, 1) := dz_50 (kBcX3_leafMonth_1 33 rfl rfl)
theorem dX3_leafMonth_34 : decode cX3_leafMonth 34 = .ok (.iconst 0, 1) := dz_3 (kBcX3_leafMonth_1 34 rfl rfl)
theorem dX3_leafMonth_35 : decode cX3_leafMonth 35 = .ok (.iaload, 1) := dz_46 (kBcX3_leafMonth_1 35 rfl rfl)
theorem dX3_leafMonth_36 : decode cX3_leafMonth 36 = .ok (.iload_n 2, 1) := dz_28 (kBcX3_leafMonth_1 36 rfl rfl)
theorem dX3_leafMonth_37 : decode cX3_leafMonth 37 = .ok (.invokevirtual 93, 3) := dz_182 (kBcX3_leafMonth_1 37 rfl rfl) (kBcX3_leafMonth_1 38 rfl rfl) (kBcX3_leafMonth_1 39 rfl rfl) rfl
theorem dX3_leafMonth_40 : decode cX3_leafMonth 40 = .ok (.pop, 1) := dz_87 (kBcX3_leafMonth_1 40 rfl rfl)
theorem dX3_leafMonth_41 : decode cX3_leafMonth 41 = .ok (.iload_n 3, 1) := dz_29 (kBcX3_leafMonth_1 41 rfl rfl)
theorem dX3_leafMonth_42 : decode cX3_leafMonth 42 = .ok (.ireturn, 1) := dz_172 (kBcX3_leafMonth_1 42 rfl rfl)
def kCcX3_isNoThing_0 : List Nat := [26, 154, 0, 10, 27, 184, 0, 100, 167, 0, 61, 26, 4, 160, 0, 11, 27, 133, 184, 0, 90, 167, 0, 48, 26, 5, 160, 0, 23, 27, 133, 10]
def kCcX3_isNoThing_1 : List Nat := [20, 0, 36, 184, 0, 30, 154, 0, 7, 4, 167, 0, 27, 3, 167, 0, 23, 26, 6, 160, 0, 17, 27, 133, 9, 10, 184, 0, 30, 154, 0, 7]
def kCcX3_isNoThing_2 : List Nat := [4, 167, 0, 4, 3, 172]
def kRcX3_isNoThing_3 : List Nat := []
def kRcX3_isNoThing_2 : List Nat := kCcX3_isNoThing_2 ++ kRcX3_isNoThing_3
def kRcX3_isNoThing_1 : List Nat := kCcX3_isNoThing_1 ++ kRcX3_isNoThing_2
def kRcX3_isNoThing_0 : List Nat := kCcX3_isNoThing_0 ++ kRcX3_isNoThing_1
theorem kRcX3_isNoThing_eq : cX3_isNoThing.data.toList.map UInt8.toNat = kRcX3_isNoThing_0 := by decide +kernel
theorem katcX3_isNoThing_0 (i : Nat) : (cX3_isNoThing.data.toList.map UInt8.toNat)[0 + i]? = kRcX3_isNoThing_0[i]? := by rw [kRcX3_isNoThing_eq, Nat.zero_add]
theorem katcX3_isNoThing_1 : ∀ i : Nat, (cX3_isNoThing.data.toList.map UInt8.toNat)[32 + i]? = kRcX3_isNoThing_1[i]? := kstep katcX3_isNoThing_0 (C := kCcX3_isNoThing_0) rfl rfl
theorem katcX3_isNoThing_2 : ∀ i : Nat, (cX3_isNoThing.data.toList.map UInt8.toNat)[64 + i]? = kRcX3_isNoThing_2[i]? := kstep katcX3_isNoThing_1 (C := kCcX3_isNoThing_1) rfl rfl
theorem kBcX3_isNoThing_0 {b : Nat} (p : Nat) (hp : Nat.ble 0 p = true) (h : kCcX3_isNoThing_0[p - 0]? = some b) : kb cX3_isNoThing p b := kin katcX3_isNoThing_0 rfl hp h
theorem kBcX3_isNoThing_1 {b : Nat} (p : Nat) (hp : Nat.ble 32 p = true) (h : kCcX3_isNoThing_1[p - 32]? = some b) : kb cX3_isNoThing p b := kin katcX3_isNoThing_1 rfl hp h
theorem kBcX3_isNoThing_2 {b : Nat} (p : Nat) (hp : Nat.ble 64 p = true) (h : kCcX3_isNoThing_2[p - 64]? = some b) : kb cX3_isNoThing p b := kin katcX3_isNoThing_2 rfl hp h
theorem dX3_isNoThing_0 : decode cX3_isNoThing 0 = .ok (.iload_n 0, 1) := dz_26 (kBcX3_isNoThing_0 0 rfl rfl)
theorem dX3_isNoThing_1 : decode cX3_isNoThing 1 = .ok (.ifCond .ne 10, 3) := dz_154 (kBcX3_isNoThing_0 1 rfl rfl) (kBcX3_isNoThing_0 2 rfl rfl) (kBcX3_isNoThing_0 3 rfl rfl) rfl
theorem dX3_isNoThing_4 : decode cX3_isNoThing 4 = .ok (.iload_n 1, 1) := dz_27 (kBcX3_isNoThing_0 4 rfl rfl)
theorem dX3_isNoThing_5 : decode cX3_isNoThing 5 = .ok (.invokestatic 100, 3) := dz_184 (kBcX3_isNoThing_0 5 rfl rfl) (kBcX3_isNoThing_0 6 rfl rfl) (kBcX3_isNoThing_0 7 rfl rfl) rfl
theorem dX3_isNoThing_8 : decode cX3_isNoThing 8 = .ok (.goto 61, 3) := dz_167 (kBcX3_isNoThing_0 8 rfl rfl) (kBcX3_isNoThing_0 9 rfl rfl) (kBcX3_isNoThing_0 10 rfl rfl) rfl
theorem dX3_isNoThing_11 : decode cX3_isNoThing 11 = .ok (.iload_n 0, 1) := dz_26 (kBcX3_isNoThing_0 11 rfl rfl)
theorem dX3_isNoThing_12 : decode cX3_isNoThing 12 = .ok (.iconst 1, 1) := dz_4 (kBcX3_isNoThing_0 12 rfl rfl)
theorem dX3_isNoThing_13 : decode cX3_isNoThing 13 = .ok (.if_icmp .ne 11, 3) := dz_160 (kBcX3_isNoThing_0 13 rfl rfl) (kBcX3_isNoThing_0 14 rfl rfl) (kBcX3_isNoThing_0 15 rfl rfl) rfl
theorem dX3_isNoThing_16 : decode cX3_isNoThing 16 = .ok (.iload_n 1, 1) := dz_27 (kBcX3_isNoThing_0 16 rfl rfl)
theorem dX3_isNoThing_17 : decode cX3_isNoThing 17 = .ok (.i2l, 1) := dz_133 (kBcX3_isNoThing_0 17 rfl rfl)
theorem dX3_isNoThing_18 : decode cX3_isNoThing 18 = .ok (.invokestatic 90, 3) := dz_184 (kBcX3_isNoThing_0 18 rfl rfl) (kBcX3_isNoThing_0 19 rfl rfl) (kBcX3_isNoThing_0 20 rfl rfl) rfl
theorem dX3_isNoThing_21 : decode cX3_isNoThing 21 = .ok (.goto 48, 3) := dz_167 (kBcX3_isNoThing_0 21 rfl rfl) (kBcX3_isNoThing_0 22 rfl rfl) (kBcX3_isNoThing_0 23 rfl rfl) rfl
theorem dX3_isNoThing_24 : decode cX3_isNoThing 24 = .ok (.iload_n 0, 1) := dz_26 (kBcX3_isNoThing_0 24 rfl rfl)
theorem dX3_isNoThing_25 : decode cX3_isNoThing 25 = .ok (.iconst 2, 1) := dz_5 (kBcX3_isNoThing_0 25 rfl rfl)
theorem dX3_isNoThing_26 : decode cX3_isNoThing 26 = .ok (.if_icmp .ne 23, 3) := dz_160 (kBcX3_isNoThing_0 26 rfl rfl) (kBcX3_isNoThing_0 27 rfl rfl) (kBcX3_isNoThing_0 28 rfl rfl) rfl
theorem dX3_isNoThing_29 : decode cX3_isNoThing 29 = .ok (.iload_n 1, 1) := dz_27 (kBcX3_isNoThing_0 29 rfl rfl)
theorem dX3_isNoThing_30 : decode cX3_isNoThing 30 = .ok (.i2l, 1) := dz_133 (kBcX3_isNoThing_0 30 rfl rfl)
theorem dX3_isNoThing_31 : decode cX3_isNoThing 31 = .ok (.lconst 1, 1) := dz_10 (kBcX3_isNoThing_0 31 rfl rfl)
theorem dX3_isNoThing_32 : decode cX3_isNoThing 32 = .ok (.ldc2_w 36, 3) := dz_20 (kBcX3_isNoThing_1 32 rfl rfl) (kBcX3_isNoThing_1 33 rfl rfl) (kBcX3_isNoThing_1 34 rfl rfl) rfl
theorem dX3_isNoThing_35 : decode cX3_isNoThing 35 = .ok (.invokestatic 30, 3) := dz_184 (kBcX3_isNoThing_1 35 rfl rfl) (kBcX3_isNoThing_1 36 rfl rfl) (kBcX3_isNoThing_1 37 rfl rfl) rfl
theorem dX3_isNoThing_38 : decode cX3_isNoThing 38 = .ok (.ifCond .ne 7, 3) := dz_154 (kBcX3_isNoThing_1 38 rfl rfl) (kBcX3_isNoThing_1 39 rfl rfl) (kBcX3_isNoThing_1 40 rfl rfl) rfl
theorem dX3_isNoThing_41 : decode cX3_isNoThing 41 = .ok (.iconst 1, 1) := dz_4 (kBcX3_isNoThing_1 41 rfl rfl)
theorem dX3_isNoThing_42 : decode cX3_isNoThing 42 = .ok (.goto 27, 3) := dz_167 (kBcX3_isNoThing_1 42 rfl rfl) (kBcX3_isNoThing_1 43 rfl rfl) (kBcX3_isNoThing_1 44 rfl rfl) rfl
theorem dX3_isNoThing_45 : decode cX3_isNoThing 45 = .ok (.iconst 0, 1) := dz_3 (kBcX3_isNoThing_1 45 rfl rfl)
theorem dX3_isNoThing_46 : decode cX3_isNoThing 46 = .ok (.goto 23, 3) := dz_167 (kBcX3_isNoThing_1 46 rfl rfl) (kBcX3_isNoThing_1 47 rfl rfl) (kBcX3_isNoThing_1 48 rfl rfl) rfl
theorem dX3_isNoThing_49 : decode cX3_isNoThing 49 = .ok (.iload_n 0, 1) := dz_26 (kBcX3_isNoThing_1 49 rfl rfl)
theorem dX3_isNoThing_50 : decode cX3_isNoThing 50 = .ok (.iconst 3, 1) := dz_6 (kBcX3_isNoThing_1 50 rfl rfl)
theorem dX3_isNoThing_51 : decode cX3_isNoThing 51 = .ok (.if_icmp .ne 17, 3) := dz_160 (kBcX3_isNoThing_1 51 rfl rfl) (kBcX3_isNoThing_1 52 rfl rfl) (kBcX3_isNoThing_1 53 rfl rfl) rfl
theorem dX3_isNoThing_54 : decode cX3_isNoThing 54 = .ok (.iload_n 1, 1) := dz_27 (kBcX3_isNoThing_1 54 rfl rfl)
theorem dX3_isNoThing_55 : decode cX3_isNoThing 55 = .ok (.i2l, 1) := dz_133 (kBcX3_isNoThing_1 55 rfl rfl)
theorem dX3_isNoThing_56 : decode cX3_isNoThing 56 = .ok (.lconst 0, 1) := dz_9 (kBcX3_isNoThing_1 56 rfl rfl)
theorem dX3_isNoThing_57 : decode cX3_isNoThing 57 = .ok (.lconst 1, 1) := dz_10 (kBcX3_isNoThing_1 57 rfl rfl)
theorem dX3_isNoThing_58 : decode cX3_isNoThing 58 = .ok (.invokestatic 30, 3) := dz_184 (kBcX3_isNoThing_1 58 rfl rfl) (kBcX3_isNoThing_1 59 rfl rfl) (kBcX3_isNoThing_1 60 rfl rfl) rfl
theorem dX3_isNoThing_61 : decode cX3_isNoThing 61 = .ok (.ifCond .ne 7, 3) := dz_154 (kBcX3_isNoThing_1 61 rfl rfl) (kBcX3_isNoThing_1 62 rfl rfl) (kBcX3_isNoThing_1 63 rfl rfl) rfl
theorem dX3_isNoThing_64 : decode cX3_isNoThing 64 = .ok (.iconst 1, 1) := dz_4 (kBcX3_isNoThing_2 64 rfl rfl)
theorem dX3_isNoThing_65 : decode cX3_isNoThing 65 = .ok (.goto 4, 3) := dz_167 (kBcX3_isNoThing_2 65 rfl rfl) (kBcX3_isNoThing_2 66 rfl rfl) (kBcX3_isNoThing_2 67 rfl rfl) rfl
theorem dX3_isNoThing_68 : decode cX3_isNoThing 68 = .ok (.iconst 0, 1) := dz_3 (kBcX3_isNoThing_2 68 rfl rfl)
theorem dX3_isNoThing_69 : decode cX3_isNoThing 69 = .ok (.ireturn, 1) := dz_172 (kBcX3_isNoThing_2 69 rfl rfl)
def kCcX3_leafWith_0 : List Nat := [42, 27, 184, 0, 96, 28, 133, 9, 20, 0, 121, 184, 0, 30, 153, 0, 11, 28, 29, 184, 0, 130, 153, 0, 7, 4, 167, 0, 4, 3, 182, 0]
def kCcX3_leafWith_1 : List Nat := [103, 153, 0, 5, 3, 172, 42, 180, 0, 9, 27, 50, 58, 4, 28, 154, 0, 14, 42, 27, 25, 4, 3, 46, 29, 182, 0, 93, 172, 28, 4, 160]
def kCcX3_leafWith_2 : List Nat := [0, 14, 42, 27, 29, 25, 4, 4, 46, 182, 0, 93, 172, 28, 7, 160, 0, 11, 42, 27, 29, 133, 182, 0, 117, 172, 28, 5, 160, 0, 17, 29]
def kCcX3_leafWith_3 : List Nat := [25, 4, 3, 46, 184, 0, 134, 184, 0, 137, 167, 0, 14, 25, 4, 3, 46, 184, 0, 141, 29, 184, 0, 137, 55, 5, 22, 5, 184, 0, 90, 153]
def kCcX3_leafWith_4 : List Nat := [0, 8, 16, 247, 167, 0, 15, 42, 27, 22, 5, 136, 25, 4, 4, 46, 182, 0, 93, 172]
def kRcX3_leafWith_5 : List Nat := []
def kRcX3_leafWith_4 : List Nat := kCcX3_leafWith_4 ++ kRcX3_leafWith_5
def kRcX3_leafWith_3 : List Nat := kCcX3_leafWith_3 ++ kRcX3_leafWith_4
def kRcX3_leafWith_2 : List Nat := kCcX3_leafWith_2 ++ kRcX3_leafWith_3
def kRcX3_leafWith_1 : List Nat := kCcX3_leafWith_1 ++ kRcX3_leafWith_2
def kRcX3_leafWith_0 : List Nat := kCcX3_leafWith_0 ++ kRcX3_leafWith_1
theorem kRcX3_leafWith_eq : cX3_leafWith.data.toList.map UInt8.toNat = kRcX3_leafWith_0 := by decide +kernel
theorem katcX3_leafWith_0 (i : Nat) : (cX3_leafWith.data.toList.map UInt8.toNat)[0 + i]? = kRcX3_leafWith_0[i]? := by rw [kRcX3_leafWith_eq, Nat.zero_add]
theorem katcX3_leafWith_1 : ∀ i : Nat, (cX3_leafWith.data.toList.map UInt8.toNat)[32 + i]? = kRcX3_leafWith_1[i]? := kstep katcX3_leafWith_0 (C := kCcX3_leafWith_0) rfl rfl
theorem katcX3_leafWith_2 : ∀ i : Nat, (cX3_leafWith.data.toList.map UInt8.toNat)[64 + i]? = kRcX3_leafWith_2[i]? := kstep katcX3_leafWith_1 (C := kCcX3_leafWith_1) rfl rfl
theorem katcX3_leafWith_3 : ∀ i : Nat, (cX3_leafWith.data.toList.map UInt8.toNat)[96 + i]? = kRcX3_leafWith_3[i]? := kstep katcX3_leafWith_2 (C := kCcX3_leafWith_2) rfl rfl
theorem katcX3_leafWith_4 : ∀ i : Nat, (cX3_leafWith.data.toList.map UInt8.toNat)[128 + i]? = kRcX3_leafWith_4[i]? := kstep katcX3_leafWith_3 (C := kCcX3_leafWith_3) rfl rfl
theorem kBcX3_leafWith_0 {b : Nat} (p : Nat) (hp : Nat.ble 0 p = true) (h : kCcX3_leafWith_0[p - 0]? = some b) : kb cX3_leafWith p b := kin katcX3_leafWith_0 rfl hp h
theorem kBcX3_leafWith_1 {b : Nat} (p : Nat) (hp : Nat.ble 32 p = true) (h : kCcX3_leafWith_1[p - 32]? = some b) : kb cX3_leafWith p b := kin katcX3_leafWith_1 rfl hp h
theorem kBcX3_leafWith_2 {b : Nat} (p : Nat) (hp : Nat.ble 64 p = true) (h : kCcX3_leafWith_2[p - 64]? = some b) : kb cX3_leafWith p b := kin katcX3_leafWith_2 rfl hp h
theorem kBcX3_leafWith_3 {b : Nat} (p : Nat) (hp : Nat.ble 96 p = true) (h : kCcX3_leafWith_3[p - 96]? = some b) : kb cX3_leafWith p b := kin katcX3_leafWith_3 rfl hp h
theorem kBcX3_leafWith_4 {b : Nat} (p : Nat) (hp : Nat.ble 128 p = true) (h : kCcX3_leafWith_4[p - 128]? = some b) : kb cX3_leafWith p b := kin katcX3_leafWith_4 rfl hp h
theorem dX3_leafWith_0 : decode cX3_leafWith 0 = .ok (.aload_n 0, 1) := dz_42 (kBcX3_leafWith_0 0 rfl rfl)
theorem dX3_leafWith_1 : decode cX3_leafWith 1 = .ok (.iload_n 1, 1) := dz_27 (kBcX3_leafWith_0 1 rfl rfl)
theorem dX3_leafWith_2 : decode cX3_leafWith 2 = .ok (.invokestatic 96, 3) := dz_184 (kBcX3_leafWith_0 2 rfl rfl) (kBcX3_leafWith_0 3 rfl rfl) (kBcX3_leafWith_0 4 rfl rfl) rfl
theorem dX3_leafWith_5 : decode cX3_leafWith 5 = .ok (.iload_n 2, 1) := dz_28 (kBcX3_leafWith_0 5 rfl rfl)
theorem dX3_leafWith_6 : decode cX3_leafWith 6 = .ok (.i2l, 1) := dz_133 (kBcX3_leafWith_0 6 rfl rfl)
theorem dX3_leafWith_7 : decode cX3_leafWith 7 = .ok (.lconst 0, 1) := dz_9 (kBcX3_leafWith_0 7 rfl rfl)
theorem dX3_leafWith_8 : decode cX3_leafWith 8 = .ok (.ldc2_w 121, 3) := dz_20 (kBcX3_leafWith_0 8 rfl rfl) (kBcX3_leafWith_0 9 rfl rfl) (kBcX3_leafWith_0 10 rfl rfl) rfl
theorem dX3_leafWith_11 : decode cX3_leafWith 11 = .ok (.invokestatic 30, 3) := dz_184 (kBcX3_leafWith_0 11 rfl rfl) (kBcX3_leafWith_0 12 rfl rfl) (kBcX3_leafWith_0 13 rfl rfl) rfl
theorem dX3_leafWith_14 : decode cX3_leafWith 14 = .ok (.ifCond .eq 11, 3) := dz_153 (kBcX3_leafWith_0 14 rfl rfl) (kBcX3_leafWith_0 15 rfl rfl) (kBcX3_leafWith_0 16 rfl rfl) rfl
theorem dX3_leafWith_17 : decode cX3_leafWith 17 = .ok (.iload_n 2, 1) := dz_28 (kBcX3_leafWith_0 17 rfl rfl)
theorem dX3_leafWith_18 : decode cX3_leafWith 18 = .ok (.iload_n 3, 1) := dz_29 (kBcX3_leafWith_0 18 rfl rfl)
theorem dX3_leafWith_19 : decode cX3_leafWith 19 = .ok (.invokestatic 130, 3) := dz_184 (kBcX3_leafWith_0 19 rfl rfl) (kBcX3_leafWith_0 20 rfl rfl) (kBcX3_leafWith_0 21 rfl rfl) rfl
theorem dX3_leafWith_22 : decode cX3_leafWith 22 = .ok (.ifCond .eq 7, 3) := dz_153 (kBcX3_leafWith_0 22 rfl rfl) (kBcX3_leafWith_0 23 rfl rfl) (kBcX3_leafWith_0 24 rfl rfl) rfl
theorem dX3_leafWith_25 : decode cX3_leafWith 25 = .ok (.iconst 1, 1) := dz_4 (kBcX3_leafWith_0 25 rfl rfl)
theorem dX3_leafWith_26 : decode cX3_leafWith 26 = .ok (.goto 4, 3) := dz_167 (kBcX3_leafWith_0 26 rfl rfl) (kBcX3_leafWith_0 27 rfl rfl) (kBcX3_leafWith_0 28 rfl rfl) rfl
theorem dX3_leafWith_29 : decode cX3_leafWith 29 = .ok (.iconst 0, 1) := dz_3 (kBcX3_leafWith_0 29 rfl rfl)
theorem dX3_leafWith_30 : decode cX3_leafWith 30 = .ok (.invokevirtual 103, 3) := dz_182 (kBcX3_leafWith_0 30 rfl rfl) (kBcX3_leafWith_0 31 rfl rfl) (kBcX3_leafWith_1 32 rfl rfl) rfl
theorem dX3_leafWith_33 : decode cX3_leafWith 33 = .ok (.ifCond .eq 5, 3) := dz_153 (kBcX3_leafWith_1 33 rfl rfl) (kBcX3_leafWith_1 34 rfl rfl) (kBcX3_leafWith_1 35 rfl rfl) rfl
theorem dX3_leafWith_36 : decode cX3_leafWith 36 = .ok (.iconst 0, 1) := dz_3 (kBcX3_leafWith_1 36 rfl rfl)
theorem dX3_leafWith_37 : decode cX3_leafWith 37 = .ok (.ireturn, 1) := dz_172 (kBcX3_leafWith_1 37 rfl rfl)
theorem dX3_leafWith_38 : decode cX3_leafWith 38 = .ok (.aload_n 0, 1) := dz_42 (kBcX3_leafWith_1 38 rfl rfl)
theorem dX3_leafWith_39 : decode cX3_leafWith 39 = .ok (.getfield 9, 3) := dz_180 (kBcX3_leafWith_1 39 rfl rfl) (kBcX3_leafWith_1 40 rfl rfl) (kBcX3_leafWith_1 41 rfl rfl) rfl
theorem dX3_leafWith_42 : decode cX3_leafWith 42 = .ok (.iload_n 1, 1) := dz_27 (kBcX3_leafWith_1 42 rfl rfl)
theorem dX3_leafWith_43 : decode cX3_leafWith 43 = .ok (.aaload, 1) := dz_50 (kBcX3_leafWith_1 43 rfl rfl)
theorem dX3_leafWith_44 : decode cX3_leafWith 44 = .ok (.astore 4, 2) := dz_58 (kBcX3_leafWith_1 44 rfl rfl) (kBcX3_leafWith_1 45 rfl rfl)
theorem dX3_leafWith_46 : decode cX3_leafWith 46 = .ok (.iload_n 2, 1) := dz_28 (kBcX3_leafWith_1 46 rfl rfl)
theorem dX3_leafWith_47 : decode cX3_leafWith 47 = .ok (.ifCond .ne 14, 3) := dz_154 (kBcX3_leafWith_1 47 rfl rfl) (kBcX3_leafWith_1 48 rfl rfl) (kBcX3_leafWith_1 49 rfl rfl) rfl
theorem dX3_leafWith_50 : decode cX3_leafWith 50 = .ok (.aload_n 0, 1) := dz_42 (kBcX3_leafWith_1 50 rfl rfl)
theorem dX3_leafWith_51 : decode cX3_leafWith 51 = .ok (.iload_n 1, 1) := dz_27 (kBcX3_leafWith_1 51 rfl rfl)
theorem dX3_leafWith_52 : decode cX3_leafWith 52 = .ok (.aload 4, 2) := dz_25 (kBcX3_leafWith_1 52 rfl rfl) (kBcX3_leafWith_1 53 rfl rfl)
theorem dX3_leafWith_54 : decode cX3_leafWith 54 = .ok (.iconst 0, 1) := dz_3 (kBcX3_leafWith_1 54 rfl rfl)
theorem dX3_leafWith_55 : decode cX3_leafWith 55 = .ok (.iaload, 1) := dz_46 (kBcX3_leafWith_1 55 rfl rfl)
theorem dX3_leafWith_56 : decode cX3_leafWith 56 = .ok (.iload_n 3, 1) := dz_29 (kBcX3_leafWith_1 56 rfl rfl)
theorem dX3_leafWith_57 : decode cX3_leafWith 57 = .ok (.invokevirtual 93, 3) := dz_182 (kBcX3_leafWith_1 57 rfl rfl) (kBcX3_leafWith_1 58 rfl rfl) (kBcX3_leafWith_1 59 rfl rfl) rfl
theorem dX3_leafWith_60 : decode cX3_leafWith 60 = .ok (.ireturn, 1) := dz_172 (kBcX3_leafWith_1 60 rfl rfl)
theorem dX3_leafWith_61 : decode cX3_leafWith 61 = .ok (.iload_n 2, 1) := dz_28 (kBcX3_leafWith_1 61 rfl rfl)
theorem dX3_leafWith_62 : decode cX3_leafWith 62 = .ok (.iconst 1, 1) := dz_4 (kBcX3_leafWith_1 62 rfl rfl)
theorem dX3_leafWith_63 : decode cX3_leafWith 63 = .ok (.if_icmp .ne 14, 3) := dz_160 (kBcX3_leafWith_1 63 rfl rfl) (kBcX3_leafWith_2 64 rfl rfl) (kBcX3_leafWith_2 65 rfl rfl) rfl
theorem dX3_leafWith_66 : decode cX3_leafWith 66 = .ok (.aload_n 0, 1) := dz_42 (kBcX3_leafWith_2 66 rfl rfl)
theorem dX3_leafWith_67 : decode cX3_leafWith 67 = .ok (.iload_n 1, 1) := dz_27 (kBcX3_leafWith_2 67 rfl rfl)
theorem dX3_leafWith_68 : decode cX3_leafWith 68 = .ok (.iload_n 3, 1) := dz_29 (kBcX3_leafWith_2 68 rfl rfl)
theorem dX3_leafWith_69 : decode cX3_leafWith 69 = .ok (.aload 4, 2) := dz_25 (kBcX3_leafWith_2 69 rfl rfl) (kBcX3_leafWith_2 70 rfl rfl)
theorem dX3_leafWith_71 : decode cX3_leafWith 71 = .ok (.iconst 1, 1) := dz_4 (kBcX3_leafWith_2 71 rfl rfl)
theorem dX3_leafWith_72 : decode cX3_leafWith 72 = .ok (.iaload, 1) := dz_46 (kBcX3_leafWith_2 72 rfl rfl)
theorem dX3_leafWith_73 : decode cX3_leafWith 73 = .ok (.invokevirtual 93, 3) := dz_182 (kBcX3_leafWith_2 73 rfl rfl) (kBcX3_leafWith_2 74 rfl rfl) (kBcX3_leafWith_2 75 rfl rfl) rfl
theorem dX3_leafWith_76 : decode cX3_leafWith 76 = .ok (.ireturn, 1) := dz_172 (kBcX3_leafWith_2 76 rfl rfl)
theorem dX3_leafWith_77 : decode cX3_leafWith 77 = .ok (.iload_n 2, 1) := dz_28 (kBcX3_leafWith_2 77 rfl rfl)
theorem dX3_leafWith_78 : decode cX3_leafWith 78 = .ok (.iconst 4, 1) := dz_7 (kBcX3_leafWith_2 78 rfl rfl)
theorem dX3_leafWith_79 : decode cX3_leafWith 79 = .ok (.if_icmp .ne 11, 3) := dz_160 (kBcX3_leafWith_2 79 rfl rfl) (kBcX3_leafWith_2 80 rfl rfl) (kBcX3_leafWith_2 81 rfl rfl) rfl
theorem dX3_leafWith_82 : decode cX3_leafWith 82 = .ok (.aload_n 0, 1) := dz_42 (kBcX3_leafWith_2 82 rfl rfl)
theorem dX3_leafWith_83 : decode cX3_leafWith 83 = .ok (.iload_n 1, 1) := dz_27 (kBcX3_leafWith_2 83 rfl rfl)
theorem dX3_leafWith_84 : decode cX3_leafWith 84 = .ok (.iload_n 3, 1) := dz_29 (kBcX3_leafWith_2 84 rfl rfl)
theorem dX3_leafWith_85 : decode cX3_leafWith 85 = .ok (.i2l, 1) := dz_133 (kBcX3_leafWith_2 85 rfl rfl)
theorem dX3_leafWith_86 : decode cX3_leafWith 86 = .ok (.invokevirtual 117, 3) := dz_182 (kBcX3_leafWith_2 86 rfl rfl) (kBcX3_leafWith_2 87 rfl rfl) (kBcX3_leafWith_2 88 rfl rfl) rfl
theorem dX3_leafWith_89 : decode cX3_leafWith 89 = .ok (.ireturn, 1) := dz_172 (kBcX3_leafWith_2 89 rfl rfl)
theorem dX3_leafWith_90 : decode cX3_leafWith 90 = .ok (.iload_n 2, 1) := dz_28 (kBcX3_leafWith_2 90 rfl rfl)
theorem dX3_leafWith_91 : decode cX3_leafWith 91 = .ok (.iconst 2, 1) := dz_5 (kBcX3_leafWith_2 91 rfl rfl)
theorem dX3_leafWith_92 : decode cX3_leafWith 92 = .ok (.if_icmp .ne 17, 3) := dz_160 (kBcX3_leafWith_2 92 rfl rfl) (kBcX3_leafWith_2 93 rfl rfl) (kBcX3_leafWith_2 94 rfl rfl) rfl
theorem dX3_leafWith_95 : decode cX3_leafWith 95 = .ok (.iload_n 3, 1) := dz_29 (kBcX3_leafWith_2 95 rfl rfl)
theorem dX3_leafWith_96 : decode cX3_leafWith 96 = .ok (.aload 4, 2) := dz_25 (kBcX3_leafWith_3 96 rfl rfl) (kBcX3_leafWith_3 97 rfl rfl)
theorem dX3_leafWith_98 : decode cX3_leafWith 98 = .ok (.iconst 0, 1) := dz_3 (kBcX3_leafWith_3 98 rfl rfl)
theorem dX3_leafWith_99 : decode cX3_leafWith 99 = .ok (.iaload, 1) := dz_46 (kBcX3_leafWith_3 99 rfl rfl)
theorem dX3_leafWith_100 : decode cX3_leafWith 100 = .ok (.invokestatic 134, 3) := dz_184 (kBcX3_leafWith_3 100 rfl rfl) (kBcX3_leafWith_3 101 rfl rfl) (kBcX3_leafWith_3 102 rfl rfl) rfl
theorem dX3_leafWith_103 : decode cX3_leafWith 103 = .ok (.invokestatic 137, 3) := dz_184 (kBcX3_leafWith_3 103 rfl rfl) (kBcX3_leafWith_3 104 rfl rfl) (kBcX3_leafWith_3 105 rfl rfl) rfl
theorem dX3_leafWith_106 : decode cX3_leafWith 106 = .ok (.goto 14, 3) := dz_167 (kBcX3_leafWith_3 106 rfl rfl) (kBcX3_leafWith_3 107 rfl rfl) (kBcX3_leafWith_3 108 rfl rfl) rfl
theorem dX3_leafWith_109 : decode cX3_leafWith 109 = .ok (.aload 4, 2) := dz_25 (kBcX3_leafWith_3 109 rfl rfl) (kBcX3_leafWith_3 110 rfl rfl)
theorem dX3_leafWith_111 : decode cX3_leafWith 111 = .ok (.iconst 0, 1) := dz_3 (kBcX3_leafWith_3 111 rfl rfl)
theorem dX3_leafWith_112 : decode cX3_leafWith 112 = .ok (.iaload, 1) := dz_46 (kBcX3_leafWith_3 112 rfl rfl)
theorem dX3_leafWith_113 : decode cX3_leafWith 113 = .ok (.invokestatic 141, 3) := dz_184 (kBcX3_leafWith_3 113 rfl rfl) (kBcX3_leafWith_3 114 rfl rfl) (kBcX3_leafWith_3 115 rfl rfl) rfl
theorem dX3_leafWith_116 : decode cX3_leafWith 116 = .ok (.iload_n 3, 1) := dz_29 (kBcX3_leafWith_3 116 rfl rfl)
theorem dX3_leafWith_117 : decode cX3_leafWith 117 = .ok (.invokestatic 137, 3) := dz_184 (kBcX3_leafWith_3 117 rfl rfl) (kBcX3_leafWith_3 118 rfl rfl) (kBcX3_leafWith_3 119 rfl rfl) rfl
theorem dX3_leafWith_120 : decode cX3_leafWith 120 = .ok (.lstore 5, 2) := dz_55 (kBcX3_leafWith_3 120 rfl rfl) (kBcX3_leafWith_3 121 rfl rfl)
theorem dX3_leafWith_122 : decode cX3_leafWith 122 = .ok (.lload 5, 2) := dz_22 (kBcX3_leafWith_3 122 rfl rfl) (kBcX3_leafWith_3 123 rfl rfl)
theorem dX3_leafWith_124 : decode cX3_leafWith 124 = .ok (.invokestatic 90, 3) := dz_184 (kBcX3_leafWith_3 124 rfl rfl) (kBcX3_leafWith_3 125 rfl rfl) (kBcX3_leafWith_3 126 rfl rfl) rfl
theorem dX3_leafWith_127 : decode cX3_leafWith 127 = .ok (.ifCond .eq 8, 3) := dz_153 (kBcX3_leafWith_3 127 rfl rfl) (kBcX3_leafWith_4 128 rfl rfl) (kBcX3_leafWith_4 129 rfl rfl) rfl
theorem dX3_leafWith_130 : decode cX3_leafWith 130 = .ok (.bipush (-9), 2) := dz_16 (kBcX3_leafWith_4 130 rfl rfl) (kBcX3_leafWith_4 131 rfl rfl) rfl
theorem dX3_leafWith_132 : decode cX3_leafWith 132 = .ok (.goto 15, 3) := dz_167 (kBcX3_leafWith_4 132 rfl rfl) (kBcX3_leafWith_4 133 rfl rfl) (kBcX3_leafWith_4 134 rfl rfl) rfl
theorem dX3_leafWith_135 : decode cX3_leafWith 135 = .ok (.aload_n 0, 1) := dz_42 (kBcX3_leafWith_4 135 rfl rfl)
theorem dX3_leafWith_136 : decode cX3_leafWith 136 = .ok (.iload_n 1, 1) := dz_27 (kBcX3_leafWith_4 136 rfl rfl)
theorem dX3_leafWith_137 : decode cX3_leafWith 137 = .ok (.lload 5, 2) := dz_22 (kBcX3_leafWith_4 137 rfl rfl) (kBcX3_leafWith_4 138 rfl rfl)
theorem dX3_leafWith_139 : decode cX3_leafWith 139 = .ok (.l2i, 1) := dz_136 (kBcX3_leafWith_4 139 rfl rfl)
theorem dX3_leafWith_140 : decode cX3_leafWith 140 = .ok (.aload 4, 2) := dz_25 (kBcX3_leafWith_4 140 rfl rfl) (kBcX3_leafWith_4 141 rfl rfl)
theorem dX3_leafWith_142 : decode cX3_leafWith 142 = .ok (.iconst 1, 1) := dz_4 (kBcX3_leafWith_4 142 rfl rfl)
theorem dX3_leafWith_143 : decode cX3_leafWith 143 = .ok (.iaload, 1) := dz_46 (kBcX3_leafWith_4 143 rfl rfl)
theorem dX3_leafWith_144 : decode cX3_leafWith 144 = .ok (.invokevirtual 93, 3) := dz_182 (kBcX3_leafWith_4 144 rfl rfl) (kBcX3_leafWith_4 145 rfl rfl) (kBcX3_leafWith_4 146 rfl rfl) rfl
theorem dX3_leafWith_147 : decode cX3_leafWith 147 = .ok (.ireturn, 1) := dz_172 (kBcX3_leafWith_4 147 rfl rfl)
def kCcX3_leafOf_0 : List Nat := [42, 27, 184, 0, 96, 154, 0, 10, 28, 184, 0, 96, 153, 0, 7, 4, 167, 0, 4, 3, 29, 184, 0, 100, 182, 0, 103, 153, 0, 7, 3, 167]
def kCcX3_leafOf_1 : List Nat := [0, 15, 42, 27, 42, 180, 0, 15, 28, 46, 29, 182, 0, 93, 172]
def kRcX3_leafOf_2 : List Nat := []
def kRcX3_leafOf_1 : List Nat := kCcX3_leafOf_1 ++ kRcX3_leafOf_2
def kRcX3_leafOf_0 : List Nat := kCcX3_leafOf_0 ++ kRcX3_leafOf_1
theorem kRcX3_leafOf_eq : cX3_leafOf.data.toList.map UInt8.toNat = kRcX3_leafOf_0 := by decide +kernel
theorem katcX3_leafOf_0 (i : Nat) : (cX3_leafOf.data.toList.map UInt8.toNat)[0 + i]? = kRcX3_leafOf_0[i]? := by rw [kRcX3_leafOf_eq, Nat.zero_add]
theorem katcX3_leafOf_1 : ∀ i : Nat, (cX3_leafOf.data.toList.map UInt8.toNat)[32 + i]? = kRcX3_leafOf_1[i]? := kstep katcX3_leafOf_0 (C := kCcX3_leafOf_0) rfl rfl
theorem kBcX3_leafOf_0 {b : Nat} (p : Nat) (hp : Nat.ble 0 p = true) (h : kCcX3_leafOf_0[p - 0]? = some b) : kb cX3_leafOf p b := kin katcX3_leafOf_0 rfl hp h
theorem kBcX3_leafOf_1 {b : Nat} (p : Nat) (hp : Nat.ble 32 p = true) (h : kCcX3_leafOf_1[p - 32]? = some b) : kb cX3_leafOf p b := kin katcX3_leafOf_1 rfl hp h
theorem dX3_leafOf_0 : decode cX3_leafOf 0 = .ok (.aload_n 0, 1) := dz_42 (kBcX3_leafOf_0 0 rfl rfl)
theorem dX3_leafOf_1 : decode cX3_leafOf 1 = .ok (.iload_n 1, 1) := dz_27 (kBcX3_leafOf_0 1 rfl rfl)
theorem dX3_leafOf_2 : decode cX3_leafOf 2 = .ok (.invokestatic 96, 3) := dz_184 (kBcX3_leafOf_0 2 rfl rfl) (kBcX3_leafOf_0 3 rfl rfl) (kBcX3_leafOf_0 4 rfl rfl) rfl
theorem dX3_leafOf_5 : decode cX3_leafOf 5 = .ok (.ifCond .ne 10, 3) := dz_154 (kBcX3_leafOf_0 5 rfl rfl) (kBcX3_leafOf_0 6 rfl rfl) (kBcX3_leafOf_0 7 rfl rfl) rfl
theorem dX3_leafOf_8 : decode cX3_leafOf 8 = .ok (.iload_n 2, 1) := dz_28 (kBcX3_leafOf_0 8 rfl rfl)
theorem dX3_leafOf_9 : decode cX3_leafOf 9 = .ok (.invokestatic 96, 3) := dz_184 (kBcX3_leafOf_0 9 rfl rfl) (kBcX3_leafOf_0 10 rfl rfl) (kBcX3_leafOf_0 11 rfl rfl) rfl
theorem dX3_leafOf_12 : decode cX3_leafOf 12 = .ok (.ifCond .eq 7, 3) := dz_153 (kBcX3_leafOf_0 12 rfl rfl) (kBcX3_leafOf_0 13 rfl rfl) (kBcX3_leafOf_0 14 rfl rfl) rfl
theorem dX3_leafOf_15 : decode cX3_leafOf 15 = .ok (.iconst 1, 1) := dz_4 (kBcX3_leafOf_0 15 rfl rfl)
theorem dX3_leafOf_16 : decode cX3_leafOf 16 = .ok (.goto 4, 3) := dz_167 (kBcX3_leafOf_0 16 rfl rfl) (kBcX3_leafOf_0 17 rfl rfl) (kBcX3_leafOf_0 18 rfl rfl) rfl
theorem dX3_leafOf_19 : decode cX3_leafOf 19 = .ok (.iconst 0, 1) := dz_3 (kBcX3_leafOf_0 19 rfl rfl)
theorem dX3_leafOf_20 : decode cX3_leafOf 20 = .ok (.iload_n 3, 1) := dz_29 (kBcX3_leafOf_0 20 rfl rfl)
theorem dX3_leafOf_21 : decode cX3_leafOf 21 = .ok (.invokestatic 100, 3) := dz_184 (kBcX3_leafOf_0 21 rfl rfl) (kBcX3_leafOf_0 22 rfl rfl) (kBcX3_leafOf_0 23 rfl rfl) rfl
theorem dX3_leafOf_24 : decode cX3_leafOf 24 = .ok (.invokevirtual 103, 3) := dz_182 (kBcX3_leafOf_0 24 rfl rfl) (kBcX3_leafOf_0 25 rfl rfl) (kBcX3_leafOf_0 26 rfl rfl) rfl
theorem dX3_leafOf_27 : decode cX3_leafOf 27 = .ok (.ifCond .eq 7, 3) := dz_153 (kBcX3_leafOf_0 27 rfl rfl) (kBcX3_leafOf_0 28 rfl rfl) (kBcX3_leafOf_0 29 rfl rfl) rfl
theorem dX3_leafOf_30 : decode cX3_leafOf 30 = .ok (.iconst 0, 1) := dz_3 (kBcX3_leafOf_0 30 rfl rfl)
theorem dX3_leafOf_31 : decode cX3_leafOf 31 = .ok (.goto 15, 3) := dz_167 (kBcX3_leafOf_0 31 rfl rfl) (kBcX3_leafOf_1 32 rfl rfl) (kBcX3_leafOf_1 33 rfl rfl) rfl
theorem dX3_leafOf_34 : decode cX3_leafOf 34 = .ok (.aload_n 0, 1) := dz_42 (kBcX3_leafOf_1 34 rfl rfl)
theorem dX3_leafOf_35 : decode cX3_leafOf 35 = .ok (.iload_n 1, 1) := dz_27 (kBcX3_leafOf_1 35 rfl rfl)
theorem dX3_leafOf_36 : decode cX3_leafOf 36 = .ok (.aload_n 0, 1) := dz_42 (kBcX3_leafOf_1 36 rfl rfl)
theorem dX3_leafOf_37 : decode cX3_leafOf 37 = .ok (.getfield 15, 3) := dz_180 (kBcX3_leafOf_1 37 rfl rfl) (kBcX3_leafOf_1 38 rfl rfl) (kBcX3_leafOf_1 39 rfl rfl) rfl
theorem dX3_leafOf_40 : decode cX3_leafOf 40 = .ok (.iload_n 2, 1) := dz_28 (kBcX3_leafOf_1 40 rfl rfl)
theorem dX3_leafOf_41 : decode cX3_leafOf 41 = .ok (.iaload, 1) := dz_46 (kBcX3_leafOf_1 41 rfl rfl)
theorem dX3_leafOf_42 : decode cX3_leafOf 42 = .ok (.iload_n 3, 1) := dz_29 (kBcX3_leafOf_1 42 rfl rfl)
theorem dX3_leafOf_43 : decode cX3_leafOf 43 = .ok (.invokevirtual 93, 3) := dz_182 (kBcX3_leafOf_1 43 rfl rfl) (kBcX3_leafOf_1 44 rfl rfl) (kBcX3_leafOf_1 45 rfl rfl) rfl
theorem dX3_leafOf_46 : decode cX3_leafOf 46 = .ok (.ireturn, 1) := dz_172 (kBcX3_leafOf_1 46 rfl rfl)
def kCcX3_leafOfRound_0 : List Nat := [42, 27, 184, 0, 96, 154, 0, 10, 28, 184, 0, 96, 153, 0, 7, 4, 167, 0, 4, 3, 3, 182, 0, 103, 153, 0, 5, 3, 172, 42, 27, 42]
def kCcX3_leafOfRound_1 : List Nat := [180, 0, 15, 28, 46, 29, 184, 0, 107, 182, 0, 93, 87, 29, 184, 0, 107, 172]
def kRcX3_leafOfRound_2 : List Nat := []
def kRcX3_leafOfRound_1 : List Nat := kCcX3_leafOfRound_1 ++ kRcX3_leafOfRound_2
def kRcX3_leafOfRound_0 : List Nat := kCcX3_leafOfRound_0 ++ kRcX3_leafOfRound_1
theorem kRcX3_leafOfRound_eq : cX3_leafOfRound.data.toList.map UInt8.toNat = kRcX3_leafOfRound_0 := by decide +kernel
theorem katcX3_leafOfRound_0 (i : Nat) : (cX3_leafOfRound.data.toList.map UInt8.toNat)[0 + i]? = kRcX3_leafOfRound_0[i]? := by rw [kRcX3_leafOfRound_eq, Nat.zero_add]
theorem katcX3_leafOfRound_1 : ∀ i : Nat, (cX3_leafOfRound.data.toList.map UInt8.toNat)[32 + i]? = kRcX3_leafOfRound_1[i]? := kstep katcX3_leafOfRound_0 (C := kCcX3_leafOfRound_0) rfl rfl
theorem kBcX3_leafOfRound_0 {b : Nat} (p : Nat) (hp : Nat.ble 0 p = true) (h : kCcX3_leafOfRound_0[p - 0]? = some b) : kb cX3_leafOfRound p b := kin katcX3_leafOfRound_0 rfl hp h
theorem kBcX3_leafOfRound_1 {b : Nat} (p : Nat) (hp : Nat.ble 32 p = true) (h : kCcX3_leafOfRound_1[p - 32]? = some b) : kb cX3_leafOfRound p b := kin katcX3_leafOfRound_1 rfl hp h
theorem dX3_leafOfRound_0 : decode cX3_leafOfRound 0 = .ok (.aload_n 0, 1) := dz_42 (kBcX3_leafOfRound_0 0 rfl rfl)
theorem dX3_leafOfRound_1 : decode cX3_leafOfRound 1 = .ok (.iload_n 1, 1) := dz_27 (kBcX3_leafOfRound_0 1 rfl rfl)
theorem dX3_leafOfRound_2 : decode cX3_leafOfRound 2 = .ok (.invokestatic 96, 3) := dz_184 (kBcX3_leafOfRound_0 2 rfl rfl) (kBcX3_leafOfRound_0 3 rfl rfl) (kBcX3_leafOfRound_0 4 rfl rfl) rfl
theorem dX3_leafOfRound_5 : decode cX3_leafOfRound 5 = .ok (.ifCond .ne 10, 3) := dz_154 (kBcX3_leafOfRound_0 5 rfl rfl) (kBcX3_leafOfRound_0 6 rfl rfl) (kBcX3_leafOfRound_0 7 rfl rfl) rfl
theorem dX3_leafOfRound_8 : decode cX3_leafOfRound 8 = .ok (.iload_n 2, 1) := dz_28 (kBcX3_leafOfRound_0 8 rfl rfl)
theorem dX3_leafOfRound_9 : decode cX3_leafOfRound 9 = .ok (.invokestatic 96, 3) := dz_184 (kBcX3_leafOfRound_0 9 rfl rfl) (kBcX3_leafOfRound_0 10 rfl rfl) (kBcX3_leafOfRound_0 11 rfl rfl) rfl
theorem dX3_leafOfRound_12 : decode cX3_leafOfRound 12 = .ok (.ifCond .eq 7, 3) := dz_153 (kBcX3_leafOfRound_0 12 rfl rfl) (kBcX3_leafOfRound_0 13 rfl rfl) (kBcX3_leafOfRound_0 14 rfl rfl) rfl
theorem dX3_leafOfRound_15 : decode cX3_leafOfRound 15 = .ok (.iconst 1, 1) := dz_4 (kBcX3_leafOfRound_0 15 rfl rfl)
theorem dX3_leafOfRound_16 : decode cX3_leafOfRound 16 = .ok (.goto 4, 3) := dz_167 (kBcX3_leafOfRound_0 16 rfl rfl) (kBcX3_leafOfRound_0 17 rfl rfl) (kBcX3_leafOfRound_0 18 rfl rfl) rfl
theorem dX3_leafOfRound_19 : decode cX3_leafOfRound 19 = .ok (.iconst 0, 1) := dz_3 (kBcX3_leafOfRound_0 19 rfl rfl)
theorem dX3_leafOfRound_20 : decode cX3_leafOfRound 20 = .ok (.iconst 0, 1) := dz_3 (kBcX3_leafOfRound_0 20 rfl rfl)
theorem dX3_leafOfRound_21 : decode cX3_leafOfRound 21 = .ok (.invokevirtual 103, 3) := dz_182 (kBcX3_leafOfRound_0 21 rfl rfl) (kBcX3_leafOfRound_0 22 rfl rfl) (kBcX3_leafOfRound_0 23 rfl rfl) rfl
theorem dX3_leafOfRound_24 : decode cX3_leafOfRound 24 = .ok (.ifCond .eq 5, 3) := dz_153 (kBcX3_leafOfRound_0 24 rfl rfl) (kBcX3_leafOfRound_0 25 rfl rfl) (kBcX3_leafOfRound_0 26 rfl rfl) rfl
theorem dX3_leafOfRound_27 : decode cX3_leafOfRound 27 = .ok (.iconst 0, 1) := dz_3 (kBcX3_leafOfRound_0 27 rfl rfl)
theorem dX3_leafOfRound_28 : decode cX3_leafOfRound 28 = .ok (.ireturn, 1) := dz_172 (kBcX3_leafOfRound_0 28 rfl rfl)
theorem dX3_leafOfRound_29 : decode cX3_leafOfRound 29 = .ok (.aload_n 0, 1) := dz_42 (kBcX3_leafOfRound_0 29 rfl rfl)
theorem dX3_leafOfRound_30 : decode cX3_leafOfRound 30 = .ok (.iload_n 1, 1) := dz_27 (kBcX3_leafOfRound_0 30 rfl rfl)
theorem dX3_leafOfRound_31 : decode cX3_leafOfRound 31 = .ok (.aload_n 0, 1) := dz_42 (kBcX3_leafOfRound_0 31 rfl rfl)
theorem dX3_leafOfRound_32 : decode cX3_leafOfRound 32 = .ok (.getfield 15, 3) := dz_180 (kBcX3_leafOfRound_1 32 rfl rfl) (kBcX3_leafOfRound_1 33 rfl rfl) (kBcX3_leafOfRound_1 34 rfl rfl) rfl
theorem dX3_leafOfRound_35 : decode cX3_leafOfRound 35 = .ok (.iload_n 2, 1) := dz_28 (kBcX3_leafOfRound_1 35 rfl rfl)
theorem dX3_leafOfRound_36 : decode cX3_leafOfRound 36 = .ok (.iaload, 1) := dz_46 (kBcX3_leafOfRound_1 36 rfl rfl)
theorem dX3_leafOfRound_37 : decode cX3_leafOfRound 37 = .ok (.iload_n 3, 1) := dz_29 (kBcX3_leafOfRound_1 37 rfl rfl)
theorem dX3_leafOfRound_38 : decode cX3_leafOfRound 38 = .ok (.invokestatic 107, 3) := dz_184 (kBcX3_leafOfRound_1 38 rfl rfl) (kBcX3_leafOfRound_1 39 rfl rfl) (kBcX3_leafOfRound_1 40 rfl rfl) rfl
theorem dX3_leafOfRound_41 : decode cX3_leafOfRound 41 = .ok (.invokevirtual 93, 3) := dz_182 (kBcX3_leafOfRound_1 41 rfl rfl) (kBcX3_leafOfRound_1 42 rfl rfl) (kBcX3_leafOfRound_1 43 rfl rfl) rfl
theorem dX3_leafOfRound_44 : decode cX3_leafOfRound 44 = .ok (.pop, 1) := dz_87 (kBcX3_leafOfRound_1 44 rfl rfl)
theorem dX3_leafOfRound_45 : decode cX3_leafOfRound 45 = .ok (.iload_n 3, 1) := dz_29 (kBcX3_leafOfRound_1 45 rfl rfl)
theorem dX3_leafOfRound_46 : decode cX3_leafOfRound 46 = .ok (.invokestatic 107, 3) := dz_184 (kBcX3_leafOfRound_1 46 rfl rfl) (kBcX3_leafOfRound_1 47 rfl rfl) (kBcX3_leafOfRound_1 48 rfl rfl) rfl
theorem dX3_leafOfRound_49 : decode cX3_leafOfRound 49 = .ok (.ireturn, 1) := dz_172 (kBcX3_leafOfRound_1 49 rfl rfl)
def kCcX3_leafOfDay_0 : List Nat := [42, 27, 184, 0, 96, 154, 0, 10, 28, 184, 0, 96, 153, 0, 7, 4, 167, 0, 4, 3, 3, 182, 0, 103, 153, 0, 7, 3, 167, 0, 24, 42]
def kCcX3_leafOfDay_1 : List Nat := [27, 42, 180, 0, 21, 28, 50, 3, 46, 42, 180, 0, 21, 28, 50, 4, 46, 182, 0, 93, 172]
def kRcX3_leafOfDay_2 : List Nat := []
def kRcX3_leafOfDay_1 : List Nat := kCcX3_leafOfDay_1 ++ kRcX3_leafOfDay_2
def kRcX3_leafOfDay_0 : List Nat := kCcX3_leafOfDay_0 ++ kRcX3_leafOfDay_1
theorem kRcX3_leafOfDay_eq : cX3_leafOfDay.data.toList.map UInt8.toNat = kRcX3_leafOfDay_0 := by decide +kernel
theorem katcX3_leafOfDay_0 (i : Nat) : (cX3_leafOfDay.data.toList.map UInt8.toNat)[0 + i]? = kRcX3_leafOfDay_0[i]? := by rw [kRcX3_leafOfDay_eq, Nat.zero_add]
theorem katcX3_leafOfDay_1 : ∀ i : Nat, (cX3_leafOfDay.data.toList.map UInt8.toNat)[32 + i]? = kRcX3_leafOfDay_1[i]? := kstep katcX3_leafOfDay_0 (C := kCcX3_leafOfDay_0) rfl rfl
theorem kBcX3_leafOfDay_0 {b : Nat} (p : Nat) (hp : Nat.ble 0 p = true) (h : kCcX3_leafOfDay_0[p - 0]? = some b) : kb cX3_leafOfDay p b := kin katcX3_leafOfDay_0 rfl hp h
theorem kBcX3_leafOfDay_1 {b : Nat} (p : Nat) (hp : Nat.ble 32 p = true) (h : kCcX3_leafOfDay_1[p - 32]? = some b) : kb cX3_leafOfDay p b := kin katcX3_leafOfDay_1 rfl hp h
theorem dX3_leafOfDay_0 : decode cX3_leafOfDay 0 = .ok (.aload_n 0, 1) := dz_42 (kBcX3_leafOfDay_0 0 rfl rfl)
theorem dX3_leafOfDay_1 : decode cX3_leafOfDay 1 = .ok (.iload_n 1, 1) := dz_27 (kBcX3_leafOfDay_0 1 rfl rfl)
theorem dX3_leafOfDay_2 : decode cX3_leafOfDay 2 = .ok (.invokestatic 96, 3) := dz_184 (kBcX3_leafOfDay_0 2 rfl rfl) (kBcX3_leafOfDay_0 3 rfl rfl) (kBcX3_leafOfDay_0 4 rfl rfl) rfl
theorem dX3_leafOfDay_5 : decode cX3_leafOfDay 5 = .ok (.ifCond .ne 10, 3) := dz_154 (kBcX3_leafOfDay_0 5 rfl rfl) (kBcX3_leafOfDay_0 6 rfl rfl) (kBcX3_leafOfDay_0 7 rfl rfl) rfl
theorem dX3_leafOfDay_8 : decode cX3_leafOfDay 8 = .ok (.iload_n 2, 1) := dz_28 (kBcX3_leafOfDay_0 8 rfl rfl)
theorem dX3_leafOfDay_9 : decode cX3_leafOfDay 9 = .ok (.invokestatic 96, 3) := dz_184 (kBcX3_leafOfDay_0 9 rfl rfl) (kBcX3_leafOfDay_0 10 rfl rfl) (kBcX3_leafOfDay_0 11 rfl rfl) rfl
theorem dX3_leafOfDay_12 : decode cX3_leafOfDay 12 = .ok (.ifCond .eq 7, 3) := dz_153 (kBcX3_leafOfDay_0 12 rfl rfl) (kBcX3_leafOfDay_0 13 rfl rfl) (kBcX3_leafOfDay_0 14 rfl rfl) rfl
theorem dX3_leafOfDay_15 : decode cX3_leafOfDay 15 = .ok (.iconst 1, 1) := dz_4 (kBcX3_leafOfDay_0 15 rfl rfl)
theorem dX3_leafOfDay_16 : decode cX3_leafOfDay 16 = .ok (.goto 4, 3) := dz_167 (kBcX3_leafOfDay_0 16 rfl rfl) (kBcX3_leafOfDay_0 17 rfl rfl) (kBcX3_leafOfDay_0 18 rfl rfl) rfl
theorem dX3_leafOfDay_19 : decode cX3_leafOfDay 19 = .ok (.iconst 0, 1) := dz_3 (kBcX3_leafOfDay_0 19 rfl rfl)
theorem dX3_leafOfDay_20 : decode cX3_leafOfDay 20 = .ok (.iconst 0, 1) := dz_3 (kBcX3_leafOfDay_0 20 rfl rfl)
theorem dX3_leafOfDay_21 : decode cX3_leafOfDay 21 = .ok (.invokevirtual 103, 3) := dz_182 (kBcX3_leafOfDay_0 21 rfl rfl) (kBcX3_leafOfDay_0 22 rfl rfl) (kBcX3_leafOfDay_0 23 rfl rfl) rfl
theorem dX3_leafOfDay_24 : decode cX3_leafOfDay 24 = .ok (.ifCond .eq 7, 3) := dz_153 (kBcX3_leafOfDay_0 24 rfl rfl) (kBcX3_leafOfDay_0 25 rfl rfl) (kBcX3_leafOfDay_0 26 rfl rfl) rfl
theorem dX3_leafOfDay_27 : decode cX3_leafOfDay 27 = .ok (.iconst 0, 1) := dz_3 (kBcX3_leafOfDay_0 27 rfl rfl)
theorem dX3_leafOfDay_28 : decode cX3_leafOfDay 28 = .ok (.goto 24, 3) := dz_167 (kBcX3_leafOfDay_0 28 rfl rfl) (kBcX3_leafOfDay_0 29 rfl rfl) (kBcX3_leafOfDay_0 30 rfl rfl) rfl
theorem dX3_leafOfDay_31 : decode cX3_leafOfDay 31 = .ok (.aload_n 0, 1) := dz_42 (kBcX3_leafOfDay_0 31 rfl rfl)
theorem dX3_leafOfDay_32 : decode cX3_leafOfDay 32 = .ok (.iload_n 1, 1) := dz_27 (kBcX3_leafOfDay_1 32 rfl rfl)
theorem dX3_leafOfDay_33 : decode cX3_leafOfDay 33 = .ok (.aload_n 0, 1) := dz_42 (kBcX3_leafOfDay_1 33 rfl rfl)
theorem dX3_leafOfDay_34 : decode cX3_leafOfDay 34 = .ok (.getfield 21, 3) := dz_180 (kBcX3_leafOfDay_1 34 rfl rfl) (kBcX3_leafOfDay_1 35 rfl rfl) (kBcX3_leafOfDay_1 36 rfl rfl) rfl
theorem dX3_leafOfDay_37 : decode cX3_leafOfDay 37 = .ok (.iload_n 2, 1) := dz_28 (kBcX3_leafOfDay_1 37 rfl rfl)
theorem dX3_leafOfDay_38 : decode cX3_leafOfDay 38 = .ok (.aaload, 1) := dz_50 (kBcX3_leafOfDay_1 38 rfl rfl)
theorem dX3_leafOfDay_39 : decode cX3_leafOfDay 39 = .ok (.iconst 0, 1) := dz_3 (kBcX3_leafOfDay_1 39 rfl rfl)
theorem dX3_leafOfDay_40 : decode cX3_leafOfDay 40 = .ok (.iaload, 1) := dz_46 (kBcX3_leafOfDay_1 40 rfl rfl)
theorem dX3_leafOfDay_41 : decode cX3_leafOfDay 41 = .ok (.aload_n 0, 1) := dz_42 (kBcX3_leafOfDay_1 41 rfl rfl)
theorem dX3_leafOfDay_42 : decode cX3_leafOfDay 42 = .ok (.getfield 21, 3) := dz_180 (kBcX3_leafOfDay_1 42 rfl rfl) (kBcX3_leafOfDay_1 43 rfl rfl) (kBcX3_leafOfDay_1 44 rfl rfl) rfl
theorem dX3_leafOfDay_45 : decode cX3_leafOfDay 45 = .ok (.iload_n 2, 1) := dz_28 (kBcX3_leafOfDay_1 45 rfl rfl)
theorem dX3_leafOfDay_46 : decode cX3_leafOfDay 46 = .ok (.aaload, 1) := dz_50 (kBcX3_leafOfDay_1 46 rfl rfl)
theorem dX3_leafOfDay_47 : decode cX3_leafOfDay 47 = .ok (.iconst 1, 1) := dz_4 (kBcX3_leafOfDay_1 47 rfl rfl)
theorem dX3_leafOfDay_48 : decode cX3_leafOfDay 48 = .ok (.iaload, 1) := dz_46 (kBcX3_leafOfDay_1 48 rfl rfl)
theorem dX3_leafOfDay_49 : decode cX3_leafOfDay 49 = .ok (.invokevirtual 93, 3) := dz_182 (kBcX3_leafOfDay_1 49 rfl rfl) (kBcX3_leafOfDay_1 50 rfl rfl) (kBcX3_leafOfDay_1 51 rfl rfl) rfl
theorem dX3_leafOfDay_52 : decode cX3_leafOfDay 52 = .ok (.ireturn, 1) := dz_172 (kBcX3_leafOfDay_1 52 rfl rfl)
def kCcX3_areSame_0 : List Nat := [42, 190, 43, 190, 160, 0, 7, 4, 167, 0, 4, 3, 61, 3, 62, 29, 42, 190, 162, 0, 28, 28, 153, 0, 16, 42, 29, 46, 43, 29, 46, 160]
def kCcX3_areSame_1 : List Nat := [0, 7, 4, 167, 0, 4, 3, 61, 132, 3, 1, 167, 255, 228, 28, 172]
def kRcX3_areSame_2 : List Nat := []
def kRcX3_areSame_1 : List Nat := kCcX3_areSame_1 ++ kRcX3_areSame_2
def kRcX3_areSame_0 : List Nat := kCcX3_areSame_0 ++ kRcX3_areSame_1
theorem kRcX3_areSame_eq : cX3_areSame.data.toList.map UInt8.toNat = kRcX3_areSame_0 := by decide +kernel
theorem katcX3_areSame_0 (i : Nat) : (cX3_areSame.data.toList.map UInt8.toNat)[0 + i]? = kRcX3_areSame_0[i]? := by rw [kRcX3_areSame_eq, Nat.zero_add]
theorem katcX3_areSame_1 : ∀ i : Nat, (cX3_areSame.data.toList.map UInt8.toNat)[32 + i]? = kRcX3_areSame_1[i]? := kstep katcX3_areSame_0 (C := kCcX3_areSame_0) rfl rfl
theorem kBcX3_areSame_0 {b : Nat} (p : Nat) (hp : Nat.ble 0 p = true) (h : kCcX3_areSame_0[p - 0]? = some b) : kb cX3_areSame p b := kin katcX3_areSame_0 rfl hp h
theorem kBcX3_areSame_1 {b : Nat} (p : Nat) (hp : Nat.ble 32 p = true) (h : kCcX3_areSame_1[p - 32]? = some b) : kb cX3_areSame p b := kin katcX3_areSame_1 rfl hp h
theorem dX3_areSame_0 : decode cX3_areSame 0 = .ok (.aload_n 0, 1) := dz_42 (kBcX3_areSame_0 0 rfl rfl)
theorem dX3_areSame_1 : decode cX3_areSame 1 = .ok (.arraylength, 1) := dz_190 (kBcX3_areSame_0 1 rfl rfl)
theorem dX3_areSame_2 : decode cX3_areSame 2 = .ok (.aload_n 1, 1) := dz_43 (kBcX3_areSame_0 2 rfl rfl)
theorem dX3_areSame_3 : decode cX3_areSame 3 = .ok (.arraylength, 1) := dz_190 (kBcX3_areSame_0 3 rfl rfl)
theorem dX3_areSame_4 : decode cX3_areSame 4 = .ok (.if_icmp .ne 7, 3) := dz_160 (kBcX3_areSame_0 4 rfl rfl) (kBcX3_areSame_0 5 rfl rfl) (kBcX3_areSame_0 6 rfl rfl) rfl
theorem dX3_areSame_7 : decode cX3_areSame 7 = .ok (.iconst 1, 1) := dz_4 (kBcX3_areSame_0 7 rfl rfl)
theorem dX3_areSame_8 : decode cX3_areSame 8 = .ok (.goto 4, 3) := dz_167 (kBcX3_areSame_0 8 rfl rfl) (kBcX3_areSame_0 9 rfl rfl) (kBcX3_areSame_0 10 rfl rfl) rfl
theorem dX3_areSame_11 : decode cX3_areSame 11 = .ok (.iconst 0, 1) := dz_3 (kBcX3_areSame_0 11 rfl rfl)
theorem dX3_areSame_12 : decode cX3_areSame 12 = .ok (.istore_n 2, 1) := dz_61 (kBcX3_areSame_0 12 rfl rfl)
theorem dX3_areSame_13 : decode cX3_areSame 13 = .ok (.iconst 0, 1) := dz_3 (kBcX3_areSame_0 13 rfl rfl)
theorem dX3_areSame_14 : decode cX3_areSame 14 = .ok (.istore_n 3, 1) := dz_62 (kBcX3_areSame_0 14 rfl rfl)
theorem dX3_areSame_15 : decode cX3_areSame 15 = .ok (.iload_n 3, 1) := dz_29 (kBcX3_areSame_0 15 rfl rfl)
theorem dX3_areSame_16 : decode cX3_areSame 16 = .ok (.aload_n 0, 1) := dz_42 (kBcX3_areSame_0 16 rfl rfl)
theorem dX3_areSame_17 : decode cX3_areSame 17 = .ok (.arraylength, 1) := dz_190 (kBcX3_areSame_0 17 rfl rfl)
theorem dX3_areSame_18 : decode cX3_areSame 18 = .ok (.if_icmp .ge 28, 3) := dz_162 (kBcX3_areSame_0 18 rfl rfl) (kBcX3_areSame_0 19 rfl rfl) (kBcX3_areSame_0 20 rfl rfl) rfl
theorem dX3_areSame_21 : decode cX3_areSame 21 = .ok (.iload_n 2, 1) := dz_28 (kBcX3_areSame_0 21 rfl rfl)
theorem dX3_areSame_22 : decode cX3_areSame 22 = .ok (.ifCond .eq 16, 3) := dz_153 (kBcX3_areSame_0 22 rfl rfl) (kBcX3_areSame_0 23 rfl rfl) (kBcX3_areSame_0 24 rfl rfl) rfl
theorem dX3_areSame_25 : decode cX3_areSame 25 = .ok (.aload_n 0, 1) := dz_42 (kBcX3_areSame_0 25 rfl rfl)
theorem dX3_areSame_26 : decode cX3_areSame 26 = .ok (.iload_n 3, 1) := dz_29 (kBcX3_areSame_0 26 rfl rfl)
theorem dX3_areSame_27 : decode cX3_areSame 27 = .ok (.iaload, 1) := dz_46 (kBcX3_areSame_0 27 rfl rfl)
theorem dX3_areSame_28 : decode cX3_areSame 28 = .ok (.aload_n 1, 1) := dz_43 (kBcX3_areSame_0 28 rfl rfl)
theorem dX3_areSame_29 : decode cX3_areSame 29 = .ok (.iload_n 3, 1) := dz_29 (kBcX3_areSame_0 29 rfl rfl)
theorem dX3_areSame_30 : decode cX3_areSame 30 = .ok (.iaload, 1) := dz_46 (kBcX3_areSame_0 30 rfl rfl)
theorem dX3_areSame_31 : decode cX3_areSame 31 = .ok (.if_icmp .ne 7, 3) := dz_160 (kBcX3_areSame_0 31 rfl rfl) (kBcX3_areSame_1 32 rfl rfl) (kBcX3_areSame_1 33 rfl rfl) rfl
theorem dX3_areSame_34 : decode cX3_areSame 34 = .ok (.iconst 1, 1) := dz_4 (kBcX3_areSame_1 34 rfl rfl)
theorem dX3_areSame_35 : decode cX3_areSame 35 = .ok (.goto 4, 3) := dz_167 (kBcX3_areSame_1 35 rfl rfl) (kBcX3_areSame_1 36 rfl rfl) (kBcX3_areSame_1 37 rfl rfl) rfl
theorem dX3_areSame_38 : decode cX3_areSame 38 = .ok (.iconst 0, 1) := dz_3 (kBcX3_areSame_1 38 rfl rfl)
theorem dX3_areSame_39 : decode cX3_areSame 39 = .ok (.istore_n 2, 1) := dz_61 (kBcX3_areSame_1 39 rfl rfl)
theorem dX3_areSame_40 : decode cX3_areSame 40 = .ok (.iinc 3 1, 3) := dz_132 (kBcX3_areSame_1 40 rfl rfl) (kBcX3_areSame_1 41 rfl rfl) (kBcX3_areSame_1 42 rfl rfl) rfl
theorem dX3_areSame_43 : decode cX3_areSame 43 = .ok (.goto (-28), 3) := dz_167 (kBcX3_areSame_1 43 rfl rfl) (kBcX3_areSame_1 44 rfl rfl) (kBcX3_areSame_1 45 rfl rfl) rfl
theorem dX3_areSame_46 : decode cX3_areSame 46 = .ok (.iload_n 2, 1) := dz_28 (kBcX3_areSame_1 46 rfl rfl)
theorem dX3_areSame_47 : decode cX3_areSame 47 = .ok (.ireturn, 1) := dz_172 (kBcX3_areSame_1 47 rfl rfl)
def kCcX3_leafLike_0 : List Nat := [42, 27, 184, 0, 96, 154, 0, 10, 28, 184, 0, 96, 153, 0, 7, 4, 167, 0, 4, 3, 3, 182, 0, 103, 153, 0, 5, 3, 172, 42, 180, 0]
def kCcX3_leafLike_1 : List Nat := [9, 27, 50, 42, 180, 0, 9, 28, 50, 184, 0, 144, 62, 42, 27, 42, 180, 0, 9, 28, 50, 3, 46, 42, 180, 0, 9, 28, 50, 4, 46, 182]
def kCcX3_leafLike_2 : List Nat := [0, 93, 87, 29, 184, 0, 78, 172]
def kRcX3_leafLike_3 : List Nat := []
def kRcX3_leafLike_2 : List Nat := kCcX3_leafLike_2 ++ kRcX3_leafLike_3
def kRcX3_leafLike_1 : List Nat := kCcX3_leafLike_1 ++ kRcX3_leafLike_2
def kRcX3_leafLike_0 : List Nat := kCcX3_leafLike_0 ++ kRcX3_leafLike_1
theorem kRcX3_leafLike_eq : cX3_leafLike.data.toList.map UInt8.toNat = kRcX3_leafLike_0 := by decide +kernel
theorem katcX3_leafLike_0 (i : Nat) : (cX3_leafLike.data.toList.map UInt8.toNat)[0 + i]? = kRcX3_leafLike_0[i]? := by rw [kRcX3_leafLike_eq, Nat.zero_add]
theorem katcX3_leafLike_1 : ∀ i : Nat, (cX3_leafLike.data.toList.map UInt8.toNat)[32 + i]? = kRcX3_leafLike_1[i]? := kstep katcX3_leafLike_0 (C := kCcX3_leafLike_0) rfl rfl
theorem katcX3_leafLike_2 : ∀ i : Nat, (cX3_leafLike.data.toList.map UInt8.toNat)[64 + i]? = kRcX3_leafLike_2[i]? := kstep katcX3_leafLike_1 (C := kCcX3_leafLike_1) rfl rfl
theorem kBcX3_leafLike_0 {b : Nat} (p : Nat) (hp : Nat.ble 0 p = true) (h : kCcX3_leafLike_0[p - 0]? = some b) : kb cX3_leafLike p b := kin katcX3_leafLike_0 rfl hp h
theorem kBcX3_leafLike_1 {b : Nat} (p : Nat) (hp : Nat.ble 32 p = true) (h : kCcX3_leafLike_1[p - 32]? = some b) : kb cX3_leafLike p b := kin katcX3_leafLike_1 rfl hp h
theorem kBcX3_leafLike_2 {b : Nat} (p : Nat) (hp : Nat.ble 64 p = true) (h : kCcX3_leafLike_2[p - 64]? = some b) : kb cX3_leafLike p b := kin katcX3_leafLike_2 rfl hp h
theorem dX3_leafLike_0 : decode cX3_leafLike 0 = .ok (.aload_n 0, 1) := dz_42 (kBcX3_leafLike_0 0 rfl rfl)
theorem dX3_leafLike_1 : decode cX3_leafLike 1 = .ok (.iload_n 1, 1) := dz_27 (kBcX3_leafLike_0 1 rfl rfl)
theorem dX3_leafLike_2 : decode cX3_leafLike 2 = .ok (.invokestatic 96, 3) := dz_184 (kBcX3_leafLike_0 2 rfl rfl) (kBcX3_leafLike_0 3 rfl rfl) (kBcX3_leafLike_0 4 rfl rfl) rfl
theorem dX3_leafLike_5 : decode cX3_leafLike 5 = .ok (.ifCond .ne 10, 3) := dz_154 (kBcX3_leafLike_0 5 rfl rfl) (kBcX3_leafLike_0 6 rfl rfl) (kBcX3_leafLike_0 7 rfl rfl) rfl
theorem dX3_leafLike_8 : decode cX3_leafLike 8 = .ok (.iload_n 2, 1) := dz_28 (kBcX3_leafLike_0 8 rfl rfl)
theorem dX3_leafLike_9 : decode cX3_leafLike 9 = .ok (.invokestatic 96, 3) := dz_184 (kBcX3_leafLike_0 9 rfl rfl) (kBcX3_leafLike_0 10 rfl rfl) (kBcX3_leafLike_0 11 rfl rfl) rfl
theorem dX3_leafLike_12 : decode cX3_leafLike 12 = .ok (.ifCond .eq 7, 3) := dz_153 (kBcX3_leafLike_0 12 rfl rfl) (kBcX3_leafLike_0 13 rfl rfl) (kBcX3_leafLike_0 14 rfl rfl) rfl
theorem dX3_leafLike_15 : decode cX3_leafLike 15 = .ok (.iconst 1, 1) := dz_4 (kBcX3_leafLike_0 15 rfl rfl)
theorem dX3_leafLike_16 : decode cX3_leafLike 16 = .ok (.goto 4, 3) := dz_167 (kBcX3_leafLike_0 16 rfl rfl) (kBcX3_leafLike_0 17 rfl rfl) (kBcX3_leafLike_0 18 rfl rfl) rfl
theorem dX3_leafLike_19 : decode cX3_leafLike 19 = .ok (.iconst 0, 1) := dz_3 (kBcX3_leafLike_0 19 rfl rfl)
theorem dX3_leafLike_20 : decode cX3_leafLike 20 = .ok (.iconst 0, 1) := dz_3 (kBcX3_leafLike_0 20 rfl rfl)
theorem dX3_leafLike_21 : decode cX3_leafLike 21 = .ok (.invokevirtual 103, 3) := dz_182 (kBcX3_leafLike_0 21 rfl rfl) (kBcX3_leafLike_0 22 rfl rfl) (kBcX3_leafLike_0 23 rfl rfl) rfl
theorem dX3_leafLike_24 : decode cX3_leafLike 24 = .ok (.ifCond .eq 5, 3) := dz_153 (kBcX3_leafLike_0 24 rfl rfl) (kBcX3_leafLike_0 25 rfl rfl) (kBcX3_leafLike_0 26 rfl rfl) rfl
theorem dX3_leafLike_27 : decode cX3_leafLike 27 = .ok (.iconst 0, 1) := dz_3 (kBcX3_leafLike_0 27 rfl rfl)
theorem dX3_leafLike_28 : decode cX3_leafLike 28 = .ok (.ireturn, 1) := dz_172 (kBcX3_leafLike_0 28 rfl rfl)
theorem dX3_leafLike_29 : decode cX3_leafLike 29 = .ok (.aload_n 0, 1) := dz_42 (kBcX3_leafLike_0 29 rfl rfl)
theorem dX3_leafLike_30 : decode cX3_leafLike 30 = .ok (.getfield 9, 3) := dz_180 (kBcX3_leafLike_0 30 rfl rfl) (kBcX3_leafLike_0 31 rfl rfl) (kBcX3_leafLike_1 32 rfl rfl) rfl
theorem dX3_leafLike_33 : decode cX3_leafLike 33 = .ok (.iload_n 1, 1) := dz_27 (kBcX3_leafLike_1 33 rfl rfl)
theorem dX3_leafLike_34 : decode cX3_leafLike 34 = .ok (.aaload, 1) := dz_50 (kBcX3_leafLike_1 34 rfl rfl)
theorem dX3_leafLike_35 : decode cX3_leafLike 35 = .ok (.aload_n 0, 1) := dz_42 (kBcX3_leafLike_1 35 rfl rfl)
theorem dX3_leafLike_36 : decode cX3_leafLike 36 = .ok (.getfield 9, 3) := dz_180 (kBcX3_leafLike_1 36 rfl rfl) (kBcX3_leafLike_1 37 rfl rfl) (kBcX3_leafLike_1 38 rfl rfl) rfl
theorem dX3_leafLike_39 : decode cX3_leafLike 39 = .ok (.iload_n 2, 1) := dz_28 (kBcX3_leafLike_1 39 rfl rfl)
theorem dX3_leafLike_40 : decode cX3_leafLike 40 = .ok (.aaload, 1) := dz_50 (kBcX3_leafLike_1 40 rfl rfl)
theorem dX3_leafLike_41 : decode cX3_leafLike 41 = .ok (.invokestatic 144, 3) := dz_184 (kBcX3_leafLike_1 41 rfl rfl) (kBcX3_leafLike_1 42 rfl rfl) (kBcX3_leafLike_1 43 rfl rfl) rfl
theorem dX3_leafLike_44 : decode cX3_leafLike 44 = .ok (.istore_n 3, 1) := dz_62 (kBcX3_leafLike_1 44 rfl rfl)
theorem dX3_leafLike_45 : decode cX3_leafLike 45 = .ok (.aload_n 0, 1) := dz_42 (kBcX3_leafLike_1 45 rfl rfl)
theorem dX3_leafLike_46 : decode cX3_leafLike 46 = .ok (.iload_n 1, 1) := dz_27 (kBcX3_leafLike_1 46 rfl rfl)
theorem dX3_leafLike_47 : decode cX3_leafLike 47 = .ok (.aload_n 0, 1) := dz_42 (kBcX3_leafLike_1 47 rfl rfl)
theorem dX3_leafLike_48 : decode cX3_leafLike 48 = .ok (.getfield 9, 3) := dz_180 (kBcX3_leafLike_1 48 rfl rfl) (kBcX3_leafLike_1 49 rfl rfl) (kBcX3_leafLike_1 50 rfl rfl) rfl
theorem dX3_leafLike_51 : decode cX3_leafLike 51 = .ok (.iload_n 2, 1) := dz_28 (kBcX3_leafLike_1 51 rfl rfl)
theorem dX3_leafLike_52 : decode cX3_leafLike 52 = .ok (.aaload, 1) := dz_50 (kBcX3_leafLike_1 52 rfl rfl)
theorem dX3_leafLike_53 : decode cX3_leafLike 53 = .ok (.iconst 0, 1) := dz_3 (kBcX3_leafLike_1 53 rfl rfl)
theorem dX3_leafLike_54 : decode cX3_leafLike 54 = .ok (.iaload, 1) := dz_46 (kBcX3_leafLike_1 54 rfl rfl)
theorem dX3_leafLike_55 : decode cX3_leafLike 55 = .ok (.aload_n 0, 1) := dz_42 (kBcX3_leafLike_1 55 rfl rfl)
theorem dX3_leafLike_56 : decode cX3_leafLike 56 = .ok (.getfield 9, 3) := dz_180 (kBcX3_leafLike_1 56 rfl rfl) (kBcX3_leafLike_1 57 rfl rfl) (kBcX3_leafLike_1 58 rfl rfl) rfl
theorem dX3_leafLike_59 : decode cX3_leafLike 59 = .ok (.iload_n 2, 1) := dz_28 (kBcX3_leafLike_1 59 rfl rfl)
theorem dX3_leafLike_60 : decode cX3_leafLike 60 = .ok (.aaload, 1) := dz_50 (kBcX3_leafLike_1 60 rfl rfl)
theorem dX3_leafLike_61 : decode cX3_leafLike 61 = .ok (.iconst 1, 1) := dz_4 (kBcX3_leafLike_1 61 rfl rfl)
theorem dX3_leafLike_62 : decode cX3_leafLike 62 = .ok (.iaload, 1) := dz_46 (kBcX3_leafLike_1 62 rfl rfl)
theorem dX3_leafLike_63 : decode cX3_leafLike 63 = .ok (.invokevirtual 93, 3) := dz_182 (kBcX3_leafLike_1 63 rfl rfl) (kBcX3_leafLike_2 64 rfl rfl) (kBcX3_leafLike_2 65 rfl rfl) rfl
theorem dX3_leafLike_66 : decode cX3_leafLike 66 = .ok (.pop, 1) := dz_87 (kBcX3_leafLike_2 66 rfl rfl)
theorem dX3_leafLike_67 : decode cX3_leafLike 67 = .ok (.iload_n 3, 1) := dz_29 (kBcX3_leafLike_2 67 rfl rfl)
theorem dX3_leafLike_68 : decode cX3_leafLike 68 = .ok (.invokestatic 78, 3) := dz_184 (kBcX3_leafLike_2 68 rfl rfl) (kBcX3_leafLike_2 69 rfl rfl) (kBcX3_leafLike_2 70 rfl rfl) rfl
theorem dX3_leafLike_71 : decode cX3_leafLike 71 = .ok (.ireturn, 1) := dz_172 (kBcX3_leafLike_2 71 rfl rfl)
def kCcX3_putYear_0 : List Nat := [32, 184, 0, 90, 153, 0, 6, 16, 247, 172, 42, 180, 0, 15, 27, 32, 136, 79, 32, 184, 0, 148, 172]
theorem kRcX3_putYear_eq : cX3_putYear.data.toList.map UInt8.toNat = kCcX3_putYear_0 := by decide +kernel
theorem dX3_putYear_0 : decode cX3_putYear 0 = .ok (.lload_n 2, 1) := dz_32 (kin0 (p := 0) kRcX3_putYear_eq rfl)
theorem dX3_putYear_1 : decode cX3_putYear 1 = .ok (.invokestatic 90, 3) := dz_184 (kin0 (p := 1) kRcX3_putYear_eq rfl) (kin0 (p := 2) kRcX3_putYear_eq rfl) (kin0 (p := 3) kRcX3_putYear_eq rfl) rfl
theorem dX3_putYear_4 : decode cX3_putYear 4 = .ok (.ifCond .eq 6, 3) := dz_153 (kin0 (p := 4) kRcX3_putYear_eq rfl) (kin0 (p := 5) kRcX3_putYear_eq rfl) (kin0 (p := 6) kRcX3_putYear_eq rfl) rfl
theorem dX3_putYear_7 : decode cX3_putYear 7 = .ok (.bipush (-9), 2) := dz_16 (kin0 (p := 7) kRcX3_putYear_eq rfl) (kin0 (p := 8) kRcX3_putYear_eq rfl) rfl
theorem dX3_putYear_9 : decode cX3_putYear 9 = .ok (.ireturn, 1) := dz_172 (kin0 (p := 9) kRcX3_putYear_eq rfl)
theorem dX3_putYear_10 : decode cX3_putYear 10 = .ok (.aload_n 0, 1) := dz_42 (kin0 (p := 10) kRcX3_putYear_eq rfl)
theorem dX3_putYear_11 : decode cX3_putYear 11 = .ok (.getfield 15, 3) := dz_180 (kin0 (p := 11) kRcX3_putYear_eq rfl) (kin0 (p := 12) kRcX3_putYear_eq rfl) (kin0 (p := 13) kRcX3_putYear_eq rfl) rfl
theorem dX3_putYear_14 : decode cX3_putYear 14 = .ok (.iload_n 1, 1) := dz_27 (kin0 (p := 14) kRcX3_putYear_eq rfl)
theorem dX3_putYear_15 : decode cX3_putYear 15 = .ok (.lload_n 2, 1) := dz_32 (kin0 (p := 15) kRcX3_putYear_eq rfl)
theorem dX3_putYear_16 : decode cX3_putYear 16 = .ok (.l2i, 1) := dz_136 (kin0 (p := 16) kRcX3_putYear_eq rfl)
theorem dX3_putYear_17 : decode cX3_putYear 17 = .ok (.iastore, 1) := dz_79 (kin0 (p := 17) kRcX3_putYear_eq rfl)
theorem dX3_putYear_18 : decode cX3_putYear 18 = .ok (.lload_n 2, 1) := dz_32 (kin0 (p := 18) kRcX3_putYear_eq rfl)
theorem dX3_putYear_19 : decode cX3_putYear 19 = .ok (.invokestatic 148, 3) := dz_184 (kin0 (p := 19) kRcX3_putYear_eq rfl) (kin0 (p := 20) kRcX3_putYear_eq rfl) (kin0 (p := 21) kRcX3_putYear_eq rfl) rfl
theorem dX3_putYear_22 : decode cX3_putYear 22 = .ok (.ireturn, 1) := dz_172 (kin0 (p := 22) kRcX3_putYear_eq rfl)
def kCcX3_year_0 : List Nat := [42, 27, 184, 0, 96, 28, 133, 184, 0, 90, 182, 0, 103, 153, 0, 7, 3, 167, 0, 10, 42, 27, 28, 133, 182, 0, 152, 172]
theorem kRcX3_year_eq : cX3_year.data.toList.map UInt8.toNat = kCcX3_year_0 := by decide +kernel
theorem dX3_year_0 : decode cX3_year 0 = .ok (.aload_n 0, 1) := dz_42 (kin0 (p := 0) kRcX3_year_eq rfl)
theorem dX3_year_1 : decode cX3_year 1 = .ok (.iload_n 1, 1) := dz_27 (kin0 (p := 1) kRcX3_year_eq rfl)
theorem dX3_year_2 : decode cX3_year 2 = .ok (.invokestatic 96, 3) := dz_184 (kin0 (p := 2) kRcX3_year_eq rfl) (kin0 (p := 3) kRcX3_year_eq rfl) (kin0 (p := 4) kRcX3_year_eq rfl) rfl
theorem dX3_year_5 : decode cX3_year 5 = .ok (.iload_n 2, 1) := dz_28 (kin0 (p := 5) kRcX3_year_eq rfl)
theorem dX3_year_6 : decode cX3_year 6 = .ok (.i2l, 1) := dz_133 (kin0 (p := 6) kRcX3_year_eq rfl)
theorem dX3_year_7 : decode cX3_year 7 = .ok (.invokestatic 90, 3) := dz_184 (kin0 (p := 7) kRcX3_year_eq rfl) (kin0 (p := 8) kRcX3_year_eq rfl) (kin0 (p := 9) kRcX3_year_eq rfl) rfl
theorem dX3_year_10 : decode cX3_year 10 = .ok (.invokevirtual 103, 3) := dz_182 (kin0 (p := 10) kRcX3_year_eq rfl) (kin0 (p := 11) kRcX3_year_eq rfl) (kin0 (p := 12) kRcX3_year_eq rfl) rfl
theorem dX3_year_13 : decode cX3_year 13 = .ok (.ifCond .eq 7, 3) := dz_153 (kin0 (p := 13) kRcX3_year_eq rfl) (kin0 (p := 14) kRcX3_year_eq rfl) (kin0 (p := 15) kRcX3_year_eq rfl) rfl
theorem dX3_year_16 : decode cX3_year 16 = .ok (.iconst 0, 1) := dz_3 (kin0 (p := 16) kRcX3_year_eq rfl)
theorem dX3_year_17 : decode cX3_year 17 = .ok (.goto 10, 3) := dz_167 (kin0 (p := 17) kRcX3_year_eq rfl) (kin0 (p := 18) kRcX3_year_eq rfl) (kin0 (p := 19) kRcX3_year_eq rfl) rfl
theorem dX3_year_20 : decode cX3_year 20 = .ok (.aload_n 0, 1) := dz_42 (kin0 (p := 20) kRcX3_year_eq rfl)
theorem dX3_year_21 : decode cX3_year 21 = .ok (.iload_n 1, 1) := dz_27 (kin0 (p := 21) kRcX3_year_eq rfl)
theorem dX3_year_22 : decode cX3_year 22 = .ok (.iload_n 2, 1) := dz_28 (kin0 (p := 22) kRcX3_year_eq rfl)
theorem dX3_year_23 : decode cX3_year 23 = .ok (.i2l, 1) := dz_133 (kin0 (p := 23) kRcX3_year_eq rfl)
theorem dX3_year_24 : decode cX3_year 24 = .ok (.invokevirtual 152, 3) := dz_182 (kin0 (p := 24) kRcX3_year_eq rfl) (kin0 (p := 25) kRcX3_year_eq rfl) (kin0 (p := 26) kRcX3_year_eq rfl) rfl
theorem dX3_year_27 : decode cX3_year 27 = .ok (.ireturn, 1) := dz_172 (kin0 (p := 27) kRcX3_year_eq rfl)
def kCcX3_later_0 : List Nat := [42, 27, 184, 0, 96, 3, 182, 0, 103, 153, 0, 7, 3, 167, 0, 22, 42, 27, 42, 180, 0, 15, 27, 46, 133, 28, 133, 29, 184, 0, 113, 97]
def kCcX3_later_1 : List Nat := [182, 0, 152, 172]
def kRcX3_later_2 : List Nat := []
def kRcX3_later_1 : List Nat := kCcX3_later_1 ++ kRcX3_later_2
def kRcX3_later_0 : List Nat := kCcX3_later_0 ++ kRcX3_later_1
theorem kRcX3_later_eq : cX3_later.data.toList.map UInt8.toNat = kRcX3_later_0 := by decide +kernel
theorem katcX3_later_0 (i : Nat) : (cX3_later.data.toList.map UInt8.toNat)[0 + i]? = kRcX3_later_0[i]? := by rw [kRcX3_later_eq, Nat.zero_add]
theorem katcX3_later_1 : ∀ i : Nat, (cX3_later.data.toList.map UInt8.toNat)[32 + i]? = kRcX3_later_1[i]? := kstep katcX3_later_0 (C := kCcX3_later_0) rfl rfl
theorem kBcX3_later_0 {b : Nat} (p : Nat) (hp : Nat.ble 0 p = true) (h : kCcX3_later_0[p - 0]? = some b) : kb cX3_later p b := kin katcX3_later_0 rfl hp h
theorem kBcX3_later_1 {b : Nat} (p : Nat) (hp : Nat.ble 32 p = true) (h : kCcX3_later_1[p - 32]? = some b) : kb cX3_later p b := kin katcX3_later_1 rfl hp h
theorem dX3_later_0 : decode cX3_later 0 = .ok (.aload_n 0, 1) := dz_42 (kBcX3_later_0 0 rfl rfl)
theorem dX3_later_1 : decode cX3_later 1 = .ok (.iload_n 1, 1) := dz_27 (kBcX3_later_0 1 rfl rfl)
theorem dX3_later_2 : decode cX3_later 2 = .ok (.invokestatic 96, 3) := dz_184 (kBcX3_later_0 2 rfl rfl) (kBcX3_later_0 3 rfl rfl) (kBcX3_later_0 4 rfl rfl) rfl
theorem dX3_later_5 : decode cX3_later 5 = .ok (.iconst 0, 1) := dz_3 (kBcX3_later_0 5 rfl rfl)
theorem dX3_later_6 : decode cX3_later 6 = .ok (.invokevirtual 103, 3) := dz_182 (kBcX3_later_0 6 rfl rfl) (kBcX3_later_0 7 rfl rfl) (kBcX3_later_0 8 rfl rfl) rfl
theorem dX3_later_9 : decode cX3_later 9 = .ok (.ifCond .eq 7, 3) := dz_153 (kBcX3_later_0 9 rfl rfl) (kBcX3_later_0 10 rfl rfl) (kBcX3_later_0 11 rfl rfl) rfl
theorem dX3_later_12 : decode cX3_later 12 = .ok (.iconst 0, 1) := dz_3 (kBcX3_later_0 12 rfl rfl)
theorem dX3_later_13 : decode cX3_later 13 = .ok (.goto 22, 3) := dz_167 (kBcX3_later_0 13 rfl rfl) (kBcX3_later_0 14 rfl rfl) (kBcX3_later_0 15 rfl rfl) rfl
theorem dX3_later_16 : decode cX3_later 16 = .ok (.aload_n 0, 1) := dz_42 (kBcX3_later_0 16 rfl rfl)
theorem dX3_later_17 : decode cX3_later 17 = .ok (.iload_n 1, 1) := dz_27 (kBcX3_later_0 17 rfl rfl)
theorem dX3_later_18 : decode cX3_later 18 = .ok (.aload_n 0, 1) := dz_42 (kBcX3_later_0 18 rfl rfl)
theorem dX3_later_19 : decode cX3_later 19 = .ok (.getfield 15, 3) := dz_180 (kBcX3_later_0 19 rfl rfl) (kBcX3_later_0 20 rfl rfl) (kBcX3_later_0 21 rfl rfl) rfl
theorem dX3_later_22 : decode cX3_later 22 = .ok (.iload_n 1, 1) := dz_27 (kBcX3_later_0 22 rfl rfl)
theorem dX3_later_23 : decode cX3_later 23 = .ok (.iaload, 1) := dz_46 (kBcX3_later_0 23 rfl rfl)
theorem dX3_later_24 : decode cX3_later 24 = .ok (.i2l, 1) := dz_133 (kBcX3_later_0 24 rfl rfl)
theorem dX3_later_25 : decode cX3_later 25 = .ok (.iload_n 2, 1) := dz_28 (kBcX3_later_0 25 rfl rfl)
theorem dX3_later_26 : decode cX3_later 26 = .ok (.i2l, 1) := dz_133 (kBcX3_later_0 26 rfl rfl)
theorem dX3_later_27 : decode cX3_later 27 = .ok (.iload_n 3, 1) := dz_29 (kBcX3_later_0 27 rfl rfl)
theorem dX3_later_28 : decode cX3_later 28 = .ok (.invokestatic 113, 3) := dz_184 (kBcX3_later_0 28 rfl rfl) (kBcX3_later_0 29 rfl rfl) (kBcX3_later_0 30 rfl rfl) rfl
theorem dX3_later_31 : decode cX3_later 31 = .ok (.ladd, 1) := dz_97 (kBcX3_later_0 31 rfl rfl)
theorem dX3_later_32 : decode cX3_later 32 = .ok (.invokevirtual 152, 3) := dz_182 (kBcX3_later_1 32 rfl rfl) (kBcX3_later_1 33 rfl rfl) (kBcX3_later_1 34 rfl rfl) rfl
theorem dX3_later_35 : decode cX3_later 35 = .ok (.ireturn, 1) := dz_172 (kBcX3_later_1 35 rfl rfl)
def kCcX3_yearUnits_0 : List Nat := [42, 27, 184, 0, 96, 28, 133, 10, 20, 0, 121, 184, 0, 30, 154, 0, 7, 4, 167, 0, 4, 3, 182, 0, 103, 153, 0, 7, 3, 167, 0, 33]
def kCcX3_yearUnits_1 : List Nat := [42, 27, 42, 180, 0, 15, 27, 46, 133, 178, 0, 123, 28, 46, 16, 12, 108, 133, 29, 133, 21, 4, 184, 0, 113, 105, 97, 182, 0, 152, 172]
def kRcX3_yearUnits_2 : List Nat := []
def kRcX3_yearUnits_1 : List Nat := kCcX3_yearUnits_1 ++ kRcX3_yearUnits_2
def kRcX3_yearUnits_0 : List Nat := kCcX3_yearUnits_0 ++ kRcX3_yearUnits_1
theorem kRcX3_yearUnits_eq : cX3_yearUnits.data.toList.map UInt8.toNat = kRcX3_yearUnits_0 := by decide +kernel
theorem katcX3_yearUnits_0 (i : Nat) : (cX3_yearUnits.data.toList.map UInt8.toNat)[0 + i]? = kRcX3_yearUnits_0[i]? := by rw [kRcX3_yearUnits_eq, Nat.zero_add]
theorem katcX3_yearUnits_1 : ∀ i : Nat, (cX3_yearUnits.data.toList.map UInt8.toNat)[32 + i]? = kRcX3_yearUnits_1[i]? := kstep katcX3_yearUnits_0 (C := kCcX3_yearUnits_0) rfl rfl
theorem kBcX3_yearUnits_0 {b : Nat} (p : Nat) (hp : Nat.ble 0 p = true) (h : kCcX3_yearUnits_0[p - 0]? = some b) : kb cX3_yearUnits p b := kin katcX3_yearUnits_0 rfl hp h
theorem kBcX3_yearUnits_1 {b : Nat} (p : Nat) (hp : Nat.ble 32 p = true) (h : kCcX3_yearUnits_1[p - 32]? = some b) : kb cX3_yearUnits p b := kin katcX3_yearUnits_1 rfl hp h
theorem dX3_yearUnits_0 : decode cX3_yearUnits 0 = .ok (.aload_n 0, 1) := dz_42 (kBcX3_yearUnits_0 0 rfl rfl)
theorem dX3_yearUnits_1 : decode cX3_yearUnits 1 = .ok (.iload_n 1, 1) := dz_27 (kBcX3_yearUnits_0 1 rfl rfl)
theorem dX3_yearUnits_2 : decode cX3_yearUnits 2 = .ok (.invokestatic 96, 3) := dz_184 (kBcX3_yearUnits_0 2 rfl rfl) (kBcX3_yearUnits_0 3 rfl rfl) (kBcX3_yearUnits_0 4 rfl rfl) rfl
theorem dX3_yearUnits_5 : decode cX3_yearUnits 5 = .ok (.iload_n 2, 1) := dz_28 (kBcX3_yearUnits_0 5 rfl rfl)
theorem dX3_yearUnits_6 : decode cX3_yearUnits 6 = .ok (.i2l, 1) := dz_133 (kBcX3_yearUnits_0 6 rfl rfl)
theorem dX3_yearUnits_7 : decode cX3_yearUnits 7 = .ok (.lconst 1, 1) := dz_10 (kBcX3_yearUnits_0 7 rfl rfl)
theorem dX3_yearUnits_8 : decode cX3_yearUnits 8 = .ok (.ldc2_w 121, 3) := dz_20 (kBcX3_yearUnits_0 8 rfl rfl) (kBcX3_yearUnits_0 9 rfl rfl) (kBcX3_yearUnits_0 10 rfl rfl) rfl
theorem dX3_yearUnits_11 : decode cX3_yearUnits 11 = .ok (.invokestatic 30, 3) := dz_184 (kBcX3_yearUnits_0 11 rfl rfl) (kBcX3_yearUnits_0 12 rfl rfl) (kBcX3_yearUnits_0 13 rfl rfl) rfl
theorem dX3_yearUnits_14 : decode cX3_yearUnits 14 = .ok (.ifCond .ne 7, 3) := dz_154 (kBcX3_yearUnits_0 14 rfl rfl) (kBcX3_yearUnits_0 15 rfl rfl) (kBcX3_yearUnits_0 16 rfl rfl) rfl
theorem dX3_yearUnits_17 : decode cX3_yearUnits 17 = .ok (.iconst 1, 1) := dz_4 (kBcX3_yearUnits_0 17 rfl rfl)
theorem dX3_yearUnits_18 : decode cX3_yearUnits 18 = .ok (.goto 4, 3) := dz_167 (kBcX3_yearUnits_0 18 rfl rfl) (kBcX3_yearUnits_0 19 rfl rfl) (kBcX3_yearUnits_0 20 rfl rfl) rfl
theorem dX3_yearUnits_21 : decode cX3_yearUnits 21 = .ok (.iconst 0, 1) := dz_3 (kBcX3_yearUnits_0 21 rfl rfl)
theorem dX3_yearUnits_22 : decode cX3_yearUnits 22 = .ok (.invokevirtual 103, 3) := dz_182 (kBcX3_yearUnits_0 22 rfl rfl) (kBcX3_yearUnits_0 23 rfl rfl) (kBcX3_yearUnits_0 24 rfl rfl) rfl
theorem dX3_yearUnits_25 : decode cX3_yearUnits 25 = .ok (.ifCond .eq 7, 3) := dz_153 (kBcX3_yearUnits_0 25 rfl rfl) (kBcX3_yearUnits_0 26 rfl rfl) (kBcX3_yearUnits_0 27 rfl rfl) rfl
theorem dX3_yearUnits_28 : decode cX3_yearUnits 28 = .ok (.iconst 0, 1) := dz_3 (kBcX3_yearUnits_0 28 rfl rfl)
theorem dX3_yearUnits_29 : decode cX3_yearUnits 29 = .ok (.goto 33, 3) := dz_167 (kBcX3_yearUnits_0 29 rfl rfl) (kBcX3_yearUnits_0 30 rfl rfl) (kBcX3_yearUnits_0 31 rfl rfl) rfl
theorem dX3_yearUnits_32 : decode cX3_yearUnits 32 = .ok (.aload_n 0, 1) := dz_42 (kBcX3_yearUnits_1 32 rfl rfl)
theorem dX3_yearUnits_33 : decode cX3_yearUnits 33 = .ok (.iload_n 1, 1) := dz_27 (kBcX3_yearUnits_1 33 rfl rfl)
theorem dX3_yearUnits_34 : decode cX3_yearUnits 34 = .ok (.aload_n 0, 1) := dz_42 (kBcX3_yearUnits_1 34 rfl rfl)
theorem dX3_yearUnits_35 : decode cX3_yearUnits 35 = .ok (.getfield 15, 3) := dz_180 (kBcX3_yearUnits_1 35 rfl rfl) (kBcX3_yearUnits_1 36 rfl rfl) (kBcX3_yearUnits_1 37 rfl rfl) rfl
theorem dX3_yearUnits_38 : decode cX3_yearUnits 38 = .ok (.iload_n 1, 1) := dz_27 (kBcX3_yearUnits_1 38 rfl rfl)
theorem dX3_yearUnits_39 : decode cX3_yearUnits 39 = .ok (.iaload, 1) := dz_46 (kBcX3_yearUnits_1 39 rfl rfl)
theorem dX3_yearUnits_40 : decode cX3_yearUnits 40 = .ok (.i2l, 1) := dz_133 (kBcX3_yearUnits_1 40 rfl rfl)
theorem dX3_yearUnits_41 : decode cX3_yearUnits 41 = .ok (.getstatic 123, 3) := dz_178 (kBcX3_yearUnits_1 41 rfl rfl) (kBcX3_yearUnits_1 42 rfl rfl) (kBcX3_yearUnits_1 43 rfl rfl) rfl
theorem dX3_yearUnits_44 : decode cX3_yearUnits 44 = .ok (.iload_n 2, 1) := dz_28 (kBcX3_yearUnits_1 44 rfl rfl)
theorem dX3_yearUnits_45 : decode cX3_yearUnits 45 = .ok (.iaload, 1) := dz_46 (kBcX3_yearUnits_1 45 rfl rfl)
theorem dX3_yearUnits_46 : decode cX3_yearUnits 46 = .ok (.bipush 12, 2) := dz_16 (kBcX3_yearUnits_1 46 rfl rfl) (kBcX3_yearUnits_1 47 rfl rfl) rfl
theorem dX3_yearUnits_48 : decode cX3_yearUnits 48 = .ok (.idiv, 1) := dz_108 (kBcX3_yearUnits_1 48 rfl rfl)
theorem dX3_yearUnits_49 : decode cX3_yearUnits 49 = .ok (.i2l, 1) := dz_133 (kBcX3_yearUnits_1 49 rfl rfl)
theorem dX3_yearUnits_50 : decode cX3_yearUnits 50 = .ok (.iload_n 3, 1) := dz_29 (kBcX3_yearUnits_1 50 rfl rfl)
theorem dX3_yearUnits_51 : decode cX3_yearUnits 51 = .ok (.i2l, 1) := dz_133 (kBcX3_yearUnits_1 51 rfl rfl)
theorem dX3_yearUnits_52 : decode cX3_yearUnits 52 = .ok (.iload 4, 2) := dz_21 (kBcX3_yearUnits_1 52 rfl rfl) (kBcX3_yearUnits_1 53 rfl rfl)
theorem dX3_yearUnits_54 : decode cX3_yearUnits 54 = .ok (.invokestatic 113, 3) := dz_184 (kBcX3_yearUnits_1 54 rfl rfl) (kBcX3_yearUnits_1 55 rfl rfl) (kBcX3_yearUnits_1 56 rfl rfl) rfl
theorem dX3_yearUnits_57 : decode cX3_yearUnits 57 = .ok (.lmul, 1) := dz_105 (kBcX3_yearUnits_1 57 rfl rfl)
theorem dX3_yearUnits_58 : decode cX3_yearUnits 58 = .ok (.ladd, 1) := dz_97 (kBcX3_yearUnits_1 58 rfl rfl)
theorem dX3_yearUnits_59 : decode cX3_yearUnits 59 = .ok (.invokevirtual 152, 3) := dz_182 (kBcX3_yearUnits_1 59 rfl rfl) (kBcX3_yearUnits_1 60 rfl rfl) (kBcX3_yearUnits_1 61 rfl rfl) rfl
theorem dX3_yearUnits_62 : decode cX3_yearUnits 62 = .ok (.ireturn, 1) := dz_172 (kBcX3_yearUnits_1 62 rfl rfl)
def kCcX3_yearWith_0 : List Nat := [42, 27, 184, 0, 96, 28, 133, 9, 20, 0, 155, 184, 0, 30, 153, 0, 13, 28, 4, 96, 29, 184, 0, 130, 153, 0, 7, 4, 167, 0, 4, 3]
def kCcX3_yearWith_1 : List Nat := [182, 0, 103, 153, 0, 5, 3, 172, 42, 27, 28, 154, 0, 8, 29, 133, 167, 0, 37, 28, 4, 160, 0, 19, 29, 42, 180, 0, 15, 27, 46, 184]
def kCcX3_yearWith_2 : List Nat := [0, 134, 184, 0, 137, 167, 0, 16, 42, 180, 0, 15, 27, 46, 184, 0, 141, 29, 184, 0, 137, 182, 0, 152, 172]
def kRcX3_yearWith_3 : List Nat := []
def kRcX3_yearWith_2 : List Nat := kCcX3_yearWith_2 ++ kRcX3_yearWith_3
def kRcX3_yearWith_1 : List Nat := kCcX3_yearWith_1 ++ kRcX3_yearWith_2
def kRcX3_yearWith_0 : List Nat := kCcX3_yearWith_0 ++ kRcX3_yearWith_1
theorem kRcX3_yearWith_eq : cX3_yearWith.data.toList.map UInt8.toNat = kRcX3_yearWith_0 := by decide +kernel
theorem katcX3_yearWith_0 (i : Nat) : (cX3_yearWith.data.toList.map UInt8.toNat)[0 + i]? = kRcX3_yearWith_0[i]? := by rw [kRcX3_yearWith_eq, Nat.zero_add]
theorem katcX3_yearWith_1 : ∀ i : Nat, (cX3_yearWith.data.toList.map UInt8.toNat)[32 + i]? = kRcX3_yearWith_1[i]? := kstep katcX3_yearWith_0 (C := kCcX3_yearWith_0) rfl rfl
theorem katcX3_yearWith_2 : ∀ i : Nat, (cX3_yearWith.data.toList.map UInt8.toNat)[64 + i]? = kRcX3_yearWith_2[i]? := kstep katcX3_yearWith_1 (C := kCcX3_yearWith_1) rfl rfl
theorem kBcX3_yearWith_0 {b : Nat} (p : Nat) (hp : Nat.ble 0 p = true) (h : kCcX3_yearWith_0[p - 0]? = some b) : kb cX3_yearWith p b := kin katcX3_yearWith_0 rfl hp h
theorem kBcX3_yearWith_1 {b : Nat} (p : Nat) (hp : Nat.ble 32 p = true) (h : kCcX3_yearWith_1[p - 32]? = some b) : kb cX3_yearWith p b := kin katcX3_yearWith_1 rfl hp h
theorem kBcX3_yearWith_2 {b : Nat} (p : Nat) (hp : Nat.ble 64 p = true) (h : kCcX3_yearWith_2[p - 64]? = some b) : kb cX3_yearWith p b := kin katcX3_yearWith_2 rfl hp h
theorem dX3_yearWith_0 : decode cX3_yearWith 0 = .ok (.aload_n 0, 1) := dz_42 (kBcX3_yearWith_0 0 rfl rfl)
theorem dX3_yearWith_1 : decode cX3_yearWith 1 = .ok (.iload_n 1, 1) := dz_27 (kBcX3_yearWith_0 1 rfl rfl)
theorem dX3_yearWith_2 : decode cX3_yearWith 2 = .ok (.invokestatic 96, 3) := dz_184 (kBcX3_yearWith_0 2 rfl rfl) (kBcX3_yearWith_0 3 rfl rfl) (kBcX3_yearWith_0 4 rfl rfl) rfl
theorem dX3_yearWith_5 : decode cX3_yearWith 5 = .ok (.iload_n 2, 1) := dz_28 (kBcX3_yearWith_0 5 rfl rfl)
theorem dX3_yearWith_6 : decode cX3_yearWith 6 = .ok (.i2l, 1) := dz_133 (kBcX3_yearWith_0 6 rfl rfl)
theorem dX3_yearWith_7 : decode cX3_yearWith 7 = .ok (.lconst 0, 1) := dz_9 (kBcX3_yearWith_0 7 rfl rfl)
theorem dX3_yearWith_8 : decode cX3_yearWith 8 = .ok (.ldc2_w 155, 3) := dz_20 (kBcX3_yearWith_0 8 rfl rfl) (kBcX3_yearWith_0 9 rfl rfl) (kBcX3_yearWith_0 10 rfl rfl) rfl
theorem dX3_yearWith_11 : decode cX3_yearWith 11 = .ok (.invokestatic 30, 3) := dz_184 (kBcX3_yearWith_0 11 rfl rfl) (kBcX3_yearWith_0 12 rfl rfl) (kBcX3_yearWith_0 13 rfl rfl) rfl
theorem dX3_yearWith_14 : decode cX3_yearWith 14 = .ok (.ifCond .eq 13, 3) := dz_153 (kBcX3_yearWith_0 14 rfl rfl) (kBcX3_yearWith_0 15 rfl rfl) (kBcX3_yearWith_0 16 rfl rfl) rfl
theorem dX3_yearWith_17 : decode cX3_yearWith 17 = .ok (.iload_n 2, 1) := dz_28 (kBcX3_yearWith_0 17 rfl rfl)
theorem dX3_yearWith_18 : decode cX3_yearWith 18 = .ok (.iconst 1, 1) := dz_4 (kBcX3_yearWith_0 18 rfl rfl)
theorem dX3_yearWith_19 : decode cX3_yearWith 19 = .ok (.iadd, 1) := dz_96 (kBcX3_yearWith_0 19 rfl rfl)
theorem dX3_yearWith_20 : decode cX3_yearWith 20 = .ok (.iload_n 3, 1) := dz_29 (kBcX3_yearWith_0 20 rfl rfl)
theorem dX3_yearWith_21 : decode cX3_yearWith 21 = .ok (.invokestatic 130, 3) := dz_184 (kBcX3_yearWith_0 21 rfl rfl) (kBcX3_yearWith_0 22 rfl rfl) (kBcX3_yearWith_0 23 rfl rfl) rfl
theorem dX3_yearWith_24 : decode cX3_yearWith 24 = .ok (.ifCond .eq 7, 3) := dz_153 (kBcX3_yearWith_0 24 rfl rfl) (kBcX3_yearWith_0 25 rfl rfl) (kBcX3_yearWith_0 26 rfl rfl) rfl
theorem dX3_yearWith_27 : decode cX3_yearWith 27 = .ok (.iconst 1, 1) := dz_4 (kBcX3_yearWith_0 27 rfl rfl)
theorem dX3_yearWith_28 : decode cX3_yearWith 28 = .ok (.goto 4, 3) := dz_167 (kBcX3_yearWith_0 28 rfl rfl) (kBcX3_yearWith_0 29 rfl rfl) (kBcX3_yearWith_0 30 rfl rfl) rfl
theorem dX3_yearWith_31 : decode cX3_yearWith 31 = .ok (.iconst 0, 1) := dz_3 (kBcX3_yearWith_0 31 rfl rfl)
theorem dX3_yearWith_32 : decode cX3_yearWith 32 = .ok (.invokevirtual 103, 3) := dz_182 (kBcX3_yearWith_1 32 rfl rfl) (kBcX3_yearWith_1 33 rfl rfl) (kBcX3_yearWith_1 34 rfl rfl) rfl
theorem dX3_yearWith_35 : decode cX3_yearWith 35 = .ok (.ifCond .eq 5, 3) := dz_153 (kBcX3_yearWith_1 35 rfl rfl) (kBcX3_yearWith_1 36 rfl rfl) (kBcX3_yearWith_1 37 rfl rfl) rfl
theorem dX3_yearWith_38 : decode cX3_yearWith 38 = .ok (.iconst 0, 1) := dz_3 (kBcX3_yearWith_1 38 rfl rfl)
theorem dX3_yearWith_39 : decode cX3_yearWith 39 = .ok (.ireturn, 1) := dz_172 (kBcX3_yearWith_1 39 rfl rfl)
theorem dX3_yearWith_40 : decode cX3_yearWith 40 = .ok (.aload_n 0, 1) := dz_42 (kBcX3_yearWith_1 40 rfl rfl)
theorem dX3_yearWith_41 : decode cX3_yearWith 41 = .ok (.iload_n 1, 1) := dz_27 (kBcX3_yearWith_1 41 rfl rfl)
theorem dX3_yearWith_42 : decode cX3_yearWith 42 = .ok (.iload_n 2, 1) := dz_28 (kBcX3_yearWith_1 42 rfl rfl)
theorem dX3_yearWith_43 : decode cX3_yearWith 43 = .ok (.ifCond .ne 8, 3) := dz_154 (kBcX3_yearWith_1 43 rfl rfl) (kBcX3_yearWith_1 44 rfl rfl) (kBcX3_yearWith_1 45 rfl rfl) rfl
theorem dX3_yearWith_46 : decode cX3_yearWith 46 = .ok (.iload_n 3, 1) := dz_29 (kBcX3_yearWith_1 46 rfl rfl)
theorem dX3_yearWith_47 : decode cX3_yearWith 47 = .ok (.i2l, 1) := dz_133 (kBcX3_yearWith_1 47 rfl rfl)
theorem dX3_yearWith_48 : decode cX3_yearWith 48 = .ok (.goto 37, 3) := dz_167 (kBcX3_yearWith_1 48 rfl rfl) (kBcX3_yearWith_1 49 rfl rfl) (kBcX3_yearWith_1 50 rfl rfl) rfl
theorem dX3_yearWith_51 : decode cX3_yearWith 51 = .ok (.iload_n 2, 1) := dz_28 (kBcX3_yearWith_1 51 rfl rfl)
theorem dX3_yearWith_52 : decode cX3_yearWith 52 = .ok (.iconst 1, 1) := dz_4 (kBcX3_yearWith_1 52 rfl rfl)
theorem dX3_yearWith_53 : decode cX3_yearWith 53 = .ok (.if_icmp .ne 19, 3) := dz_160 (kBcX3_yearWith_1 53 rfl rfl) (kBcX3_yearWith_1 54 rfl rfl) (kBcX3_yearWith_1 55 rfl rfl) rfl
theorem dX3_yearWith_56 : decode cX3_yearWith 56 = .ok (.iload_n 3, 1) := dz_29 (kBcX3_yearWith_1 56 rfl rfl)
theorem dX3_yearWith_57 : decode cX3_yearWith 57 = .ok (.aload_n 0, 1) := dz_42 (kBcX3_yearWith_1 57 rfl rfl)
theorem dX3_yearWith_58 : decode cX3_yearWith 58 = .ok (.getfield 15, 3) := dz_180 (kBcX3_yearWith_1 58 rfl rfl) (kBcX3_yearWith_1 59 rfl rfl) (kBcX3_yearWith_1 60 rfl rfl) rfl
theorem dX3_yearWith_61 : decode cX3_yearWith 61 = .ok (.iload_n 1, 1) := dz_27 (kBcX3_yearWith_1 61 rfl rfl)
theorem dX3_yearWith_62 : decode cX3_yearWith 62 = .ok (.iaload, 1) := dz_46 (kBcX3_yearWith_1 62 rfl rfl)
theorem dX3_yearWith_63 : decode cX3_yearWith 63 = .ok (.invokestatic 134, 3) := dz_184 (kBcX3_yearWith_1 63 rfl rfl) (kBcX3_yearWith_2 64 rfl rfl) (kBcX3_yearWith_2 65 rfl rfl) rfl
theorem dX3_yearWith_66 : decode cX3_yearWith 66 = .ok (.invokestatic 137, 3) := dz_184 (kBcX3_yearWith_2 66 rfl rfl) (kBcX3_yearWith_2 67 rfl rfl) (kBcX3_yearWith_2 68 rfl rfl) rfl
theorem dX3_yearWith_69 : decode cX3_yearWith 69 = .ok (.goto 16, 3) := dz_167 (kBcX3_yearWith_2 69 rfl rfl) (kBcX3_yearWith_2 70 rfl rfl) (kBcX3_yearWith_2 71 rfl rfl) rfl
theorem dX3_yearWith_72 : decode cX3_yearWith 72 = .ok (.aload_n 0, 1) := dz_42 (kBcX3_yearWith_2 72 rfl rfl)
theorem dX3_yearWith_73 : decode cX3_yearWith 73 = .ok (.getfield 15, 3) := dz_180 (kBcX3_yearWith_2 73 rfl rfl) (kBcX3_yearWith_2 74 rfl rfl) (kBcX3_yearWith_2 75 rfl rfl) rfl
theorem dX3_yearWith_76 : decode cX3_yearWith 76 = .ok (.iload_n 1, 1) := dz_27 (kBcX3_yearWith_2 76 rfl rfl)
theorem dX3_yearWith_77 : decode cX3_yearWith 77 = .ok (.iaload, 1) := dz_46 (kBcX3_yearWith_2 77 rfl rfl)
theorem dX3_yearWith_78 : decode cX3_yearWith 78 = .ok (.invokestatic 141, 3) := dz_184 (kBcX3_yearWith_2 78 rfl rfl) (kBcX3_yearWith_2 79 rfl rfl) (kBcX3_yearWith_2 80 rfl rfl) rfl
theorem dX3_yearWith_81 : decode cX3_yearWith 81 = .ok (.iload_n 3, 1) := dz_29 (kBcX3_yearWith_2 81 rfl rfl)
theorem dX3_yearWith_82 : decode cX3_yearWith 82 = .ok (.invokestatic 137, 3) := dz_184 (kBcX3_yearWith_2 82 rfl rfl) (kBcX3_yearWith_2 83 rfl rfl) (kBcX3_yearWith_2 84 rfl rfl) rfl
theorem dX3_yearWith_85 : decode cX3_yearWith 85 = .ok (.invokevirtual 152, 3) := dz_182 (kBcX3_yearWith_2 85 rfl rfl) (kBcX3_yearWith_2 86 rfl rfl) (kBcX3_yearWith_2 87 rfl rfl) rfl
theorem dX3_yearWith_88 : decode cX3_yearWith 88 = .ok (.ireturn, 1) := dz_172 (kBcX3_yearWith_2 88 rfl rfl)
def kCcX3_yearOf_0 : List Nat := [42, 27, 184, 0, 96, 154, 0, 10, 29, 184, 0, 96, 153, 0, 7, 4, 167, 0, 4, 3, 3, 182, 0, 103, 153, 0, 7, 3, 167, 0, 33, 42]
def kCcX3_yearOf_1 : List Nat := [27, 28, 153, 0, 15, 42, 180, 0, 21, 29, 50, 3, 46, 133, 167, 0, 12, 42, 180, 0, 9, 29, 50, 3, 46, 133, 182, 0, 152, 172]
def kRcX3_yearOf_2 : List Nat := []
def kRcX3_yearOf_1 : List Nat := kCcX3_yearOf_1 ++ kRcX3_yearOf_2
def kRcX3_yearOf_0 : List Nat := kCcX3_yearOf_0 ++ kRcX3_yearOf_1
theorem kRcX3_yearOf_eq : cX3_yearOf.data.toList.map UInt8.toNat = kRcX3_yearOf_0 := by decide +kernel
theorem katcX3_yearOf_0 (i : Nat) : (cX3_yearOf.data.toList.map UInt8.toNat)[0 + i]? = kRcX3_yearOf_0[i]? := by rw [kRcX3_yearOf_eq, Nat.zero_add]
theorem katcX3_yearOf_1 : ∀ i : Nat, (cX3_yearOf.data.toList.map UInt8.toNat)[32 + i]? = kRcX3_yearOf_1[i]? := kstep katcX3_yearOf_0 (C := kCcX3_yearOf_0) rfl rfl
theorem kBcX3_yearOf_0 {b : Nat} (p : Nat) (hp : Nat.ble 0 p = true) (h : kCcX3_yearOf_0[p - 0]? = some b) : kb cX3_yearOf p b := kin katcX3_yearOf_0 rfl hp h
theorem kBcX3_yearOf_1 {b : Nat} (p : Nat) (hp : Nat.ble 32 p = true) (h : kCcX3_yearOf_1[p - 32]? = some b) : kb cX3_yearOf p b := kin katcX3_yearOf_1 rfl hp h
theorem dX3_yearOf_0 : decode cX3_yearOf 0 = .ok (.aload_n 0, 1) := dz_42 (kBcX3_yearOf_0 0 rfl rfl)
theorem dX3_yearOf_1 : decode cX3_yearOf 1 = .ok (.iload_n 1, 1) := dz_27 (kBcX3_yearOf_0 1 rfl rfl)
theorem dX3_yearOf_2 : decode cX3_yearOf 2 = .ok (.invokestatic 96, 3) := dz_184 (kBcX3_yearOf_0 2 rfl rfl) (kBcX3_yearOf_0 3 rfl rfl) (kBcX3_yearOf_0 4 rfl rfl) rfl
theorem dX3_yearOf_5 : decode cX3_yearOf 5 = .ok (.ifCond .ne 10, 3) := dz_154 (kBcX3_yearOf_0 5 rfl rfl) (kBcX3_yearOf_0 6 rfl rfl) (kBcX3_yearOf_0 7 rfl rfl) rfl
theorem dX3_yearOf_8 : decode cX3_yearOf 8 = .ok (.iload_n 3, 1) := dz_29 (kBcX3_yearOf_0 8 rfl rfl)
theorem dX3_yearOf_9 : decode cX3_yearOf 9 = .ok (.invokestatic 96, 3) := dz_184 (kBcX3_yearOf_0 9 rfl rfl) (kBcX3_yearOf_0 10 rfl rfl) (kBcX3_yearOf_0 11 rfl rfl) rfl
theorem dX3_yearOf_12 : decode cX3_yearOf 12 = .ok (.ifCond .eq 7, 3) := dz_153 (kBcX3_yearOf_0 12 rfl rfl) (kBcX3_yearOf_0 13 rfl rfl) (kBcX3_yearOf_0 14 rfl rfl) rfl
theorem dX3_yearOf_15 : decode cX3_yearOf 15 = .ok (.iconst 1, 1) := dz_4 (kBcX3_yearOf_0 15 rfl rfl)
theorem dX3_yearOf_16 : decode cX3_yearOf 16 = .ok (.goto 4, 3) := dz_167 (kBcX3_yearOf_0 16 rfl rfl) (kBcX3_yearOf_0 17 rfl rfl) (kBcX3_yearOf_0 18 rfl rfl) rfl
theorem dX3_yearOf_19 : decode cX3_yearOf 19 = .ok (.iconst 0, 1) := dz_3 (kBcX3_yearOf_0 19 rfl rfl)
theorem dX3_yearOf_20 : decode cX3_yearOf 20 = .ok (.iconst 0, 1) := dz_3 (kBcX3_yearOf_0 20 rfl rfl)
theorem dX3_yearOf_21 : decode cX3_yearOf 21 = .ok (.invokevirtual 103, 3) := dz_182 (kBcX3_yearOf_0 21 rfl rfl) (kBcX3_yearOf_0 22 rfl rfl) (kBcX3_yearOf_0 23 rfl rfl) rfl
theorem dX3_yearOf_24 : decode cX3_yearOf 24 = .ok (.ifCond .eq 7, 3) := dz_153 (kBcX3_yearOf_0 24 rfl rfl) (kBcX3_yearOf_0 25 rfl rfl) (kBcX3_yearOf_0 26 rfl rfl) rfl
theorem dX3_yearOf_27 : decode cX3_yearOf 27 = .ok (.iconst 0, 1) := dz_3 (kBcX3_yearOf_0 27 rfl rfl)
theorem dX3_yearOf_28 : decode cX3_yearOf 28 = .ok (.goto 33, 3) := dz_167 (kBcX3_yearOf_0 28 rfl rfl) (kBcX3_yearOf_0 29 rfl rfl) (kBcX3_yearOf_0 30 rfl rfl) rfl
theorem dX3_yearOf_31 : decode cX3_yearOf 31 = .ok (.aload_n 0, 1) := dz_42 (kBcX3_yearOf_0 31 rfl rfl)
theorem dX3_yearOf_32 : decode cX3_yearOf 32 = .ok (.iload_n 1, 1) := dz_27 (kBcX3_yearOf_1 32 rfl rfl)
theorem dX3_yearOf_33 : decode cX3_yearOf 33 = .ok (.iload_n 2, 1) := dz_28 (kBcX3_yearOf_1 33 rfl rfl)
theorem dX3_yearOf_34 : decode cX3_yearOf 34 = .ok (.ifCond .eq 15, 3) := dz_153 (kBcX3_yearOf_1 34 rfl rfl) (kBcX3_yearOf_1 35 rfl rfl) (kBcX3_yearOf_1 36 rfl rfl) rfl
theorem dX3_yearOf_37 : decode cX3_yearOf 37 = .ok (.aload_n 0, 1) := dz_42 (kBcX3_yearOf_1 37 rfl rfl)
theorem dX3_yearOf_38 : decode cX3_yearOf 38 = .ok (.getfield 21, 3) := dz_180 (kBcX3_yearOf_1 38 rfl rfl) (kBcX3_yearOf_1 39 rfl rfl) (kBcX3_yearOf_1 40 rfl rfl) rfl
theorem dX3_yearOf_41 : decode cX3_yearOf 41 = .ok (.iload_n 3, 1) := dz_29 (kBcX3_yearOf_1 41 rfl rfl)
theorem dX3_yearOf_42 : decode cX3_yearOf 42 = .ok (.aaload, 1) := dz_50 (kBcX3_yearOf_1 42 rfl rfl)
theorem dX3_yearOf_43 : decode cX3_yearOf 43 = .ok (.iconst 0, 1) := dz_3 (kBcX3_yearOf_1 43 rfl rfl)
theorem dX3_yearOf_44 : decode cX3_yearOf 44 = .ok (.iaload, 1) := dz_46 (kBcX3_yearOf_1 44 rfl rfl)
theorem dX3_yearOf_45 : decode cX3_yearOf 45 = .ok (.i2l, 1) := dz_133 (kBcX3_yearOf_1 45 rfl rfl)
theorem dX3_yearOf_46 : decode cX3_yearOf 46 = .ok (.goto 12, 3) := dz_167 (kBcX3_yearOf_1 46 rfl rfl) (kBcX3_yearOf_1 47 rfl rfl) (kBcX3_yearOf_1 48 rfl rfl) rfl
theorem dX3_yearOf_49 : decode cX3_yearOf 49 = .ok (.aload_n 0, 1) := dz_42 (kBcX3_yearOf_1 49 rfl rfl)
theorem dX3_yearOf_50 : decode cX3_yearOf 50 = .ok (.getfield 9, 3) := dz_180 (kBcX3_yearOf_1 50 rfl rfl) (kBcX3_yearOf_1 51 rfl rfl) (kBcX3_yearOf_1 52 rfl rfl) rfl
theorem dX3_yearOf_53 : decode cX3_yearOf 53 = .ok (.iload_n 3, 1) := dz_29 (kBcX3_yearOf_1 53 rfl rfl)
theorem dX3_yearOf_54 : decode cX3_yearOf 54 = .ok (.aaload, 1) := dz_50 (kBcX3_yearOf_1 54 rfl rfl)
theorem dX3_yearOf_55 : decode cX3_yearOf 55 = .ok (.iconst 0, 1) := dz_3 (kBcX3_yearOf_1 55 rfl rfl)
theorem dX3_yearOf_56 : decode cX3_yearOf 56 = .ok (.iaload, 1) := dz_46 (kBcX3_yearOf_1 56 rfl rfl)
theorem dX3_yearOf_57 : decode cX3_yearOf 57 = .ok (.i2l, 1) := dz_133 (kBcX3_yearOf_1 57 rfl rfl)
theorem dX3_yearOf_58 : decode cX3_yearOf 58 = .ok (.invokevirtual 152, 3) := dz_182 (kBcX3_yearOf_1 58 rfl rfl) (kBcX3_yearOf_1 59 rfl rfl) (kBcX3_yearOf_1 60 rfl rfl) rfl
theorem dX3_yearOf_61 : decode cX3_yearOf 61 = .ok (.ireturn, 1) := dz_172 (kBcX3_yearOf_1 61 rfl rfl)
def kCcX3_yearLike_0 : List Nat := [42, 27, 184, 0, 96, 154, 0, 10, 28, 184, 0, 96, 153, 0, 7, 4, 167, 0, 4, 3, 3, 182, 0, 103, 153, 0, 5, 3, 172, 42, 180, 0]
def kCcX3_yearLike_1 : List Nat := [15, 27, 46, 42, 180, 0, 15, 28, 46, 160, 0, 7, 4, 167, 0, 4, 3, 62, 42, 180, 0, 15, 27, 42, 180, 0, 15, 28, 46, 79, 29, 184]
def kCcX3_yearLike_2 : List Nat := [0, 78, 172]
def kRcX3_yearLike_3 : List Nat := []
def kRcX3_yearLike_2 : List Nat := kCcX3_yearLike_2 ++ kRcX3_yearLike_3
def kRcX3_yearLike_1 : List Nat := kCcX3_yearLike_1 ++ kRcX3_yearLike_2
def kRcX3_yearLike_0 : List Nat := kCcX3_yearLike_0 ++ kRcX3_yearLike_1
theorem kRcX3_yearLike_eq : cX3_yearLike.data.toList.map UInt8.toNat = kRcX3_yearLike_0 := by decide +kernel
theorem katcX3_yearLike_0 (i : Nat) : (cX3_yearLike.data.toList.map UInt8.toNat)[0 + i]? = kRcX3_yearLike_0[i]? := by rw [kRcX3_yearLike_eq, Nat.zero_add]
theorem katcX3_yearLike_1 : ∀ i : Nat, (cX3_yearLike.data.toList.map UInt8.toNat)[32 + i]? = kRcX3_yearLike_1[i]? := kstep katcX3_yearLike_0 (C := kCcX3_yearLike_0) rfl rfl
theorem katcX3_yearLike_2 : ∀ i : Nat, (cX3_yearLike.data.toList.map UInt8.toNat)[64 + i]? = kRcX3_yearLike_2[i]? := kstep katcX3_yearLike_1 (C := kCcX3_yearLike_1) rfl rfl
theorem kBcX3_yearLike_0 {b : Nat} (p : Nat) (hp : Nat.ble 0 p = true) (h : kCcX3_yearLike_0[p - 0]? = some b) : kb cX3_yearLike p b := kin katcX3_yearLike_0 rfl hp h
theorem kBcX3_yearLike_1 {b : Nat} (p : Nat) (hp : Nat.ble 32 p = true) (h : kCcX3_yearLike_1[p - 32]? = some b) : kb cX3_yearLike p b := kin katcX3_yearLike_1 rfl hp h
theorem kBcX3_yearLike_2 {b : Nat} (p : Nat) (hp : Nat.ble 64 p = true) (h : kCcX3_yearLike_2[p - 64]? = some b) : kb cX3_yearLike p b := kin katcX3_yearLike_2 rfl hp h
theorem dX3_yearLike_0 : decode cX3_yearLike 0 = .ok (.aload_n 0, 1) := dz_42 (kBcX3_yearLike_0 0 rfl rfl)
theorem dX3_yearLike_1 : decode cX3_yearLike 1 = .ok (.iload_n 1, 1) := dz_27 (kBcX3_yearLike_0 1 rfl rfl)
theorem dX3_yearLike_2 : decode cX3_yearLike 2 = .ok (.invokestatic 96, 3) := dz_184 (kBcX3_yearLike_0 2 rfl rfl) (kBcX3_yearLike_0 3 rfl rfl) (kBcX3_yearLike_0 4 rfl rfl) rfl
theorem dX3_yearLike_5 : decode cX3_yearLike 5 = .ok (.ifCond .ne 10, 3) := dz_154 (kBcX3_yearLike_0 5 rfl rfl) (kBcX3_yearLike_0 6 rfl rfl) (kBcX3_yearLike_0 7 rfl rfl) rfl
theorem dX3_yearLike_8 : decode cX3_yearLike 8 = .ok (.iload_n 2, 1) := dz_28 (kBcX3_yearLike_0 8 rfl rfl)
theorem dX3_yearLike_9 : decode cX3_yearLike 9 = .ok (.invokestatic 96, 3) := dz_184 (kBcX3_yearLike_0 9 rfl rfl) (kBcX3_yearLike_0 10 rfl rfl) (kBcX3_yearLike_0 11 rfl rfl) rfl
theorem dX3_yearLike_12 : decode cX3_yearLike 12 = .ok (.ifCond .eq 7, 3) := dz_153 (kBcX3_yearLike_0 12 rfl rfl) (kBcX3_yearLike_0 13 rfl rfl) (kBcX3_yearLike_0 14 rfl rfl) rfl
theorem dX3_yearLike_15 : decode cX3_yearLike 15 = .ok (.iconst 1, 1) := dz_4 (kBcX3_yearLike_0 15 rfl rfl)
theorem dX3_yearLike_16 : decode cX3_yearLike 16 = .ok (.goto 4, 3) := dz_167 (kBcX3_yearLike_0 16 rfl rfl) (kBcX3_yearLike_0 17 rfl rfl) (kBcX3_yearLike_0 18 rfl rfl) rfl
theorem dX3_yearLike_19 : decode cX3_yearLike 19 = .ok (.iconst 0, 1) := dz_3 (kBcX3_yearLike_0 19 rfl rfl)
theorem dX3_yearLike_20 : decode cX3_yearLike 20 = .ok (.iconst 0, 1) := dz_3 (kBcX3_yearLike_0 20 rfl rfl)
theorem dX3_yearLike_21 : decode cX3_yearLike 21 = .ok (.invokevirtual 103, 3) := dz_182 (kBcX3_yearLike_0 21 rfl rfl) (kBcX3_yearLike_0 22 rfl rfl) (kBcX3_yearLike_0 23 rfl rfl) rfl
theorem dX3_yearLike_24 : decode cX3_yearLike 24 = .ok (.ifCond .eq 5, 3) := dz_153 (kBcX3_yearLike_0 24 rfl rfl) (kBcX3_yearLike_0 25 rfl rfl) (kBcX3_yearLike_0 26 rfl rfl) rfl
theorem dX3_yearLike_27 : decode cX3_yearLike 27 = .ok (.iconst 0, 1) := dz_3 (kBcX3_yearLike_0 27 rfl rfl)
theorem dX3_yearLike_28 : decode cX3_yearLike 28 = .ok (.ireturn, 1) := dz_172 (kBcX3_yearLike_0 28 rfl rfl)
theorem dX3_yearLike_29 : decode cX3_yearLike 29 = .ok (.aload_n 0, 1) := dz_42 (kBcX3_yearLike_0 29 rfl rfl)
theorem dX3_yearLike_30 : decode cX3_yearLike 30 = .ok (.getfield 15, 3) := dz_180 (kBcX3_yearLike_0 30 rfl rfl) (kBcX3_yearLike_0 31 rfl rfl) (kBcX3_yearLike_1 32 rfl rfl) rfl
theorem dX3_yearLike_33 : decode cX3_yearLike 33 = .ok (.iload_n 1, 1) := dz_27 (kBcX3_yearLike_1 33 rfl rfl)
theorem dX3_yearLike_34 : decode cX3_yearLike 34 = .ok (.iaload, 1) := dz_46 (kBcX3_yearLike_1 34 rfl rfl)
theorem dX3_yearLike_35 : decode cX3_yearLike 35 = .ok (.aload_n 0, 1) := dz_42 (kBcX3_yearLike_1 35 rfl rfl)
theorem dX3_yearLike_36 : decode cX3_yearLike 36 = .ok (.getfield 15, 3) := dz_180 (kBcX3_yearLike_1 36 rfl rfl) (kBcX3_yearLike_1 37 rfl rfl) (kBcX3_yearLike_1 38 rfl rfl) rfl
theorem dX3_yearLike_39 : decode cX3_yearLike 39 = .ok (.iload_n 2, 1) := dz_28 (kBcX3_yearLike_1 39 rfl rfl)
theorem dX3_yearLike_40 : decode cX3_yearLike 40 = .ok (.iaload, 1) := dz_46 (kBcX3_yearLike_1 40 rfl rfl)
theorem dX3_yearLike_41 : decode cX3_yearLike 41 = .ok (.if_icmp .ne 7, 3) := dz_160 (kBcX3_yearLike_1 41 rfl rfl) (kBcX3_yearLike_1 42 rfl rfl) (kBcX3_yearLike_1 43 rfl rfl) rfl
theorem dX3_yearLike_44 : decode cX3_yearLike 44 = .ok (.iconst 1, 1) := dz_4 (kBcX3_yearLike_1 44 rfl rfl)
theorem dX3_yearLike_45 : decode cX3_yearLike 45 = .ok (.goto 4, 3) := dz_167 (kBcX3_yearLike_1 45 rfl rfl) (kBcX3_yearLike_1 46 rfl rfl) (kBcX3_yearLike_1 47 rfl rfl) rfl
theorem dX3_yearLike_48 : decode cX3_yearLike 48 = .ok (.iconst 0, 1) := dz_3 (kBcX3_yearLike_1 48 rfl rfl)
theorem dX3_yearLike_49 : decode cX3_yearLike 49 = .ok (.istore_n 3, 1) := dz_62 (kBcX3_yearLike_1 49 rfl rfl)
theorem dX3_yearLike_50 : decode cX3_yearLike 50 = .ok (.aload_n 0, 1) := dz_42 (kBcX3_yearLike_1 50 rfl rfl)
theorem dX3_yearLike_51 : decode cX3_yearLike 51 = .ok (.getfield 15, 3) := dz_180 (kBcX3_yearLike_1 51 rfl rfl) (kBcX3_yearLike_1 52 rfl rfl) (kBcX3_yearLike_1 53 rfl rfl) rfl
theorem dX3_yearLike_54 : decode cX3_yearLike 54 = .ok (.iload_n 1, 1) := dz_27 (kBcX3_yearLike_1 54 rfl rfl)
theorem dX3_yearLike_55 : decode cX3_yearLike 55 = .ok (.aload_n 0, 1) := dz_42 (kBcX3_yearLike_1 55 rfl rfl)
theorem dX3_yearLike_56 : decode cX3_yearLike 56 = .ok (.getfield 15, 3) := dz_180 (kBcX3_yearLike_1 56 rfl rfl) (kBcX3_yearLike_1 57 rfl rfl) (kBcX3_yearLike_1 58 rfl rfl) rfl
theorem dX3_yearLike_59 : decode cX3_yearLike 59 = .ok (.iload_n 2, 1) := dz_28 (kBcX3_yearLike_1 59 rfl rfl)
theorem dX3_yearLike_60 : decode cX3_yearLike 60 = .ok (.iaload, 1) := dz_46 (kBcX3_yearLike_1 60 rfl rfl)
theorem dX3_yearLike_61 : decode cX3_yearLike 61 = .ok (.iastore, 1) := dz_79 (kBcX3_yearLike_1 61 rfl rfl)
theorem dX3_yearLike_62 : decode cX3_yearLike 62 = .ok (.iload_n 3, 1) := dz_29 (kBcX3_yearLike_1 62 rfl rfl)
theorem dX3_yearLike_63 : decode cX3_yearLike 63 = .ok (.invokestatic 78, 3) := dz_184 (kBcX3_yearLike_1 63 rfl rfl) (kBcX3_yearLike_2 64 rfl rfl) (kBcX3_yearLike_2 65 rfl rfl) rfl
theorem dX3_yearLike_66 : decode cX3_yearLike 66 = .ok (.ireturn, 1) := dz_172 (kBcX3_yearLike_2 66 rfl rfl)
def kCcX3_isPutFeast_0 : List Nat := [29, 9, 28, 184, 0, 55, 164, 0, 5, 3, 172, 42, 180, 0, 18, 27, 5, 188, 10, 89, 3, 28, 79, 89, 4, 29, 79, 83, 4, 172]
theorem kRcX3_isPutFeast_eq : cX3_isPutFeast.data.toList.map UInt8.toNat = kCcX3_isPutFeast_0 := by decide +kernel
theorem dX3_isPutFeast_0 : decode cX3_isPutFeast 0 = .ok (.iload_n 3, 1) := dz_29 (kin0 (p := 0) kRcX3_isPutFeast_eq rfl)
theorem dX3_isPutFeast_1 : decode cX3_isPutFeast 1 = .ok (.lconst 0, 1) := dz_9 (kin0 (p := 1) kRcX3_isPutFeast_eq rfl)
theorem dX3_isPutFeast_2 : decode cX3_isPutFeast 2 = .ok (.iload_n 2, 1) := dz_28 (kin0 (p := 2) kRcX3_isPutFeast_eq rfl)
theorem dX3_isPutFeast_3 : decode cX3_isPutFeast 3 = .ok (.invokestatic 55, 3) := dz_184 (kin0 (p := 3) kRcX3_isPutFeast_eq rfl) (kin0 (p := 4) kRcX3_isPutFeast_eq rfl) (kin0 (p := 5) kRcX3_isPutFeast_eq rfl) rfl
theorem dX3_isPutFeast_6 : decode cX3_isPutFeast 6 = .ok (.if_icmp .le 5, 3) := dz_164 (kin0 (p := 6) kRcX3_isPutFeast_eq rfl) (kin0 (p := 7) kRcX3_isPutFeast_eq rfl) (kin0 (p := 8) kRcX3_isPutFeast_eq rfl) rfl
theorem dX3_isPutFeast_9 : decode cX3_isPutFeast 9 = .ok (.iconst 0, 1) := dz_3 (kin0 (p := 9) kRcX3_isPutFeast_eq rfl)
theorem dX3_isPutFeast_10 : decode cX3_isPutFeast 10 = .ok (.ireturn, 1) := dz_172 (kin0 (p := 10) kRcX3_isPutFeast_eq rfl)
theorem dX3_isPutFeast_11 : decode cX3_isPutFeast 11 = .ok (.aload_n 0, 1) := dz_42 (kin0 (p := 11) kRcX3_isPutFeast_eq rfl)
theorem dX3_isPutFeast_12 : decode cX3_isPutFeast 12 = .ok (.getfield 18, 3) := dz_180 (kin0 (p := 12) kRcX3_isPutFeast_eq rfl) (kin0 (p := 13) kRcX3_isPutFeast_eq rfl) (kin0 (p := 14) kRcX3_isPutFeast_eq rfl) rfl
theorem dX3_isPutFeast_15 : decode cX3_isPutFeast 15 = .ok (.iload_n 1, 1) := dz_27 (kin0 (p := 15) kRcX3_isPutFeast_eq rfl)
theorem dX3_isPutFeast_16 : decode cX3_isPutFeast 16 = .ok (.iconst 2, 1) := dz_5 (kin0 (p := 16) kRcX3_isPutFeast_eq rfl)
theorem dX3_isPutFeast_17 : decode cX3_isPutFeast 17 = .ok (.newarray .int, 2) := by decide +kernel
theorem dX3_isPutFeast_19 : decode cX3_isPutFeast 19 = .ok (.dup, 1) := dz_89 (kin0 (p := 19) kRcX3_isPutFeast_eq rfl)
theorem dX3_isPutFeast_20 : decode cX3_isPutFeast 20 = .ok (.iconst 0, 1) := dz_3 (kin0 (p := 20) kRcX3_isPutFeast_eq rfl)
theorem dX3_isPutFeast_21 : decode cX3_isPutFeast 21 = .ok (.iload_n 2, 1) := dz_28 (kin0 (p := 21) kRcX3_isPutFeast_eq rfl)
theorem dX3_isPutFeast_22 : decode cX3_isPutFeast 22 = .ok (.iastore, 1) := dz_79 (kin0 (p := 22) kRcX3_isPutFeast_eq rfl)
theorem dX3_isPutFeast_23 : decode cX3_isPutFeast 23 = .ok (.dup, 1) := dz_89 (kin0 (p := 23) kRcX3_isPutFeast_eq rfl)
theorem dX3_isPutFeast_24 : decode cX3_isPutFeast 24 = .ok (.iconst 1, 1) := dz_4 (kin0 (p := 24) kRcX3_isPutFeast_eq rfl)
theorem dX3_isPutFeast_25 : decode cX3_isPutFeast 25 = .ok (.iload_n 3, 1) := dz_29 (kin0 (p := 25) kRcX3_isPutFeast_eq rfl)
theorem dX3_isPutFeast_26 : decode cX3_isPutFeast 26 = .ok (.iastore, 1) := dz_79 (kin0 (p := 26) kRcX3_isPutFeast_eq rfl)
theorem dX3_isPutFeast_27 : decode cX3_isPutFeast 27 = .ok (.aastore, 1) := dz_83 (kin0 (p := 27) kRcX3_isPutFeast_eq rfl)
theorem dX3_isPutFeast_28 : decode cX3_isPutFeast 28 = .ok (.iconst 1, 1) := dz_4 (kin0 (p := 28) kRcX3_isPutFeast_eq rfl)
theorem dX3_isPutFeast_29 : decode cX3_isPutFeast 29 = .ok (.ireturn, 1) := dz_172 (kin0 (p := 29) kRcX3_isPutFeast_eq rfl)
def kCcX3_feast_0 : List Nat := [42, 27, 184, 0, 96, 28, 184, 0, 100, 154, 0, 15, 29, 133, 10, 20, 0, 157, 184, 0, 30, 154, 0, 7, 4, 167, 0, 4, 3, 182, 0, 103]
def kCcX3_feast_1 : List Nat := [153, 0, 5, 3, 172, 42, 27, 28, 29, 182, 0, 159, 153, 0, 18, 42, 180, 0, 18, 27, 50, 184, 0, 163, 184, 0, 78, 167, 0, 5, 16, 247]
def kCcX3_feast_2 : List Nat := [172]
def kRcX3_feast_3 : List Nat := []
def kRcX3_feast_2 : List Nat := kCcX3_feast_2 ++ kRcX3_feast_3
def kRcX3_feast_1 : List Nat := kCcX3_feast_1 ++ kRcX3_feast_2
def kRcX3_feast_0 : List Nat := kCcX3_feast_0 ++ kRcX3_feast_1
theorem kRcX3_feast_eq : cX3_feast.data.toList.map UInt8.toNat = kRcX3_feast_0 := by decide +kernel
theorem katcX3_feast_0 (i : Nat) : (cX3_feast.data.toList.map UInt8.toNat)[0 + i]? = kRcX3_feast_0[i]? := by rw [kRcX3_feast_eq, Nat.zero_add]
theorem katcX3_feast_1 : ∀ i : Nat, (cX3_feast.data.toList.map UInt8.toNat)[32 + i]? = kRcX3_feast_1[i]? := kstep katcX3_feast_0 (C := kCcX3_feast_0) rfl rfl
theorem katcX3_feast_2 : ∀ i : Nat, (cX3_feast.data.toList.map UInt8.toNat)[64 + i]? = kRcX3_feast_2[i]? := kstep katcX3_feast_1 (C := kCcX3_feast_1) rfl rfl
theorem kBcX3_feast_0 {b : Nat} (p : Nat) (hp : Nat.ble 0 p = true) (h : kCcX3_feast_0[p - 0]? = some b) : kb cX3_feast p b := kin katcX3_feast_0 rfl hp h
theorem kBcX3_feast_1 {b : Nat} (p : Nat) (hp : Nat.ble 32 p = true) (h : kCcX3_feast_1[p - 32]? = some b) : kb cX3_feast p b := kin katcX3_feast_1 rfl hp h
theorem kBcX3_feast_2 {b : Nat} (p : Nat) (hp : Nat.ble 64 p = true) (h : kCcX3_feast_2[p - 64]? = some b) : kb cX3_feast p b := kin katcX3_feast_2 rfl hp h
theorem dX3_feast_0 : decode cX3_feast 0 = .ok (.aload_n 0, 1) := dz_42 (kBcX3_feast_0 0 rfl rfl)
theorem dX3_feast_1 : decode cX3_feast 1 = .ok (.iload_n 1, 1) := dz_27 (kBcX3_feast_0 1 rfl rfl)
theorem dX3_feast_2 : decode cX3_feast 2 = .ok (.invokestatic 96, 3) := dz_184 (kBcX3_feast_0 2 rfl rfl) (kBcX3_feast_0 3 rfl rfl) (kBcX3_feast_0 4 rfl rfl) rfl
theorem dX3_feast_5 : decode cX3_feast 5 = .ok (.iload_n 2, 1) := dz_28 (kBcX3_feast_0 5 rfl rfl)
theorem dX3_feast_6 : decode cX3_feast 6 = .ok (.invokestatic 100, 3) := dz_184 (kBcX3_feast_0 6 rfl rfl) (kBcX3_feast_0 7 rfl rfl) (kBcX3_feast_0 8 rfl rfl) rfl
theorem dX3_feast_9 : decode cX3_feast 9 = .ok (.ifCond .ne 15, 3) := dz_154 (kBcX3_feast_0 9 rfl rfl) (kBcX3_feast_0 10 rfl rfl) (kBcX3_feast_0 11 rfl rfl) rfl
theorem dX3_feast_12 : decode cX3_feast 12 = .ok (.iload_n 3, 1) := dz_29 (kBcX3_feast_0 12 rfl rfl)
theorem dX3_feast_13 : decode cX3_feast 13 = .ok (.i2l, 1) := dz_133 (kBcX3_feast_0 13 rfl rfl)
theorem dX3_feast_14 : decode cX3_feast 14 = .ok (.lconst 1, 1) := dz_10 (kBcX3_feast_0 14 rfl rfl)
theorem dX3_feast_15 : decode cX3_feast 15 = .ok (.ldc2_w 157, 3) := dz_20 (kBcX3_feast_0 15 rfl rfl) (kBcX3_feast_0 16 rfl rfl) (kBcX3_feast_0 17 rfl rfl) rfl
theorem dX3_feast_18 : decode cX3_feast 18 = .ok (.invokestatic 30, 3) := dz_184 (kBcX3_feast_0 18 rfl rfl) (kBcX3_feast_0 19 rfl rfl) (kBcX3_feast_0 20 rfl rfl) rfl
theorem dX3_feast_21 : decode cX3_feast 21 = .ok (.ifCond .ne 7, 3) := dz_154 (kBcX3_feast_0 21 rfl rfl) (kBcX3_feast_0 22 rfl rfl) (kBcX3_feast_0 23 rfl rfl) rfl
theorem dX3_feast_24 : decode cX3_feast 24 = .ok (.iconst 1, 1) := dz_4 (kBcX3_feast_0 24 rfl rfl)
theorem dX3_feast_25 : decode cX3_feast 25 = .ok (.goto 4, 3) := dz_167 (kBcX3_feast_0 25 rfl rfl) (kBcX3_feast_0 26 rfl rfl) (kBcX3_feast_0 27 rfl rfl) rfl
theorem dX3_feast_28 : decode cX3_feast 28 = .ok (.iconst 0, 1) := dz_3 (kBcX3_feast_0 28 rfl rfl)
theorem dX3_feast_29 : decode cX3_feast 29 = .ok (.invokevirtual 103, 3) := dz_182 (kBcX3_feast_0 29 rfl rfl) (kBcX3_feast_0 30 rfl rfl) (kBcX3_feast_0 31 rfl rfl) rfl
theorem dX3_feast_32 : decode cX3_feast 32 = .ok (.ifCond .eq 5, 3) := dz_153 (kBcX3_feast_1 32 rfl rfl) (kBcX3_feast_1 33 rfl rfl) (kBcX3_feast_1 34 rfl rfl) rfl
theorem dX3_feast_35 : decode cX3_feast 35 = .ok (.iconst 0, 1) := dz_3 (kBcX3_feast_1 35 rfl rfl)
theorem dX3_feast_36 : decode cX3_feast 36 = .ok (.ireturn, 1) := dz_172 (kBcX3_feast_1 36 rfl rfl)
theorem dX3_feast_37 : decode cX3_feast 37 = .ok (.aload_n 0, 1) := dz_42 (kBcX3_feast_1 37 rfl rfl)
theorem dX3_feast_38 : decode cX3_feast 38 = .ok (.iload_n 1, 1) := dz_27 (kBcX3_feast_1 38 rfl rfl)
theorem dX3_feast_39 : decode cX3_feast 39 = .ok (.iload_n 2, 1) := dz_28 (kBcX3_feast_1 39 rfl rfl)
theorem dX3_feast_40 : decode cX3_feast 40 = .ok (.iload_n 3, 1) := dz_29 (kBcX3_feast_1 40 rfl rfl)
theorem dX3_feast_41 : decode cX3_feast 41 = .ok (.invokevirtual 159, 3) := dz_182 (kBcX3_feast_1 41 rfl rfl) (kBcX3_feast_1 42 rfl rfl) (kBcX3_feast_1 43 rfl rfl) rfl
theorem dX3_feast_44 : decode cX3_feast 44 = .ok (.ifCond .eq 18, 3) := dz_153 (kBcX3_feast_1 44 rfl rfl) (kBcX3_feast_1 45 rfl rfl) (kBcX3_feast_1 46 rfl rfl) rfl
theorem dX3_feast_47 : decode cX3_feast 47 = .ok (.aload_n 0, 1) := dz_42 (kBcX3_feast_1 47 rfl rfl)
theorem dX3_feast_48 : decode cX3_feast 48 = .ok (.getfield 18, 3) := dz_180 (kBcX3_feast_1 48 rfl rfl) (kBcX3_feast_1 49 rfl rfl) (kBcX3_feast_1 50 rfl rfl) rfl
theorem dX3_feast_51 : decode cX3_feast 51 = .ok (.iload_n 1, 1) := dz_27 (kBcX3_feast_1 51 rfl rfl)
theorem dX3_feast_52 : decode cX3_feast 52 = .ok (.aaload, 1) := dz_50 (kBcX3_feast_1 52 rfl rfl)
theorem dX3_feast_53 : decode cX3_feast 53 = .ok (.invokestatic 163, 3) := dz_184 (kBcX3_feast_1 53 rfl rfl) (kBcX3_feast_1 54 rfl rfl) (kBcX3_feast_1 55 rfl rfl) rfl
theorem dX3_feast_56 : decode cX3_feast 56 = .ok (.invokestatic 78, 3) := dz_184 (kBcX3_feast_1 56 rfl rfl) (kBcX3_feast_1 57 rfl rfl) (kBcX3_feast_1 58 rfl rfl) rfl
theorem dX3_feast_59 : decode cX3_feast 59 = .ok (.goto 5, 3) := dz_167 (kBcX3_feast_1 59 rfl rfl) (kBcX3_feast_1 60 rfl rfl) (kBcX3_feast_1 61 rfl rfl) rfl
theorem dX3_feast_62 : decode cX3_feast 62 = .ok (.bipush (-9), 2) := dz_16 (kBcX3_feast_1 62 rfl rfl) (kBcX3_feast_1 63 rfl rfl) rfl
theorem dX3_feast_64 : decode cX3_feast 64 = .ok (.ireturn, 1) := dz_172 (kBcX3_feast_2 64 rfl rfl)
def kCcX3_feastRound_0 : List Nat := [42, 27, 184, 0, 96, 29, 133, 10, 20, 0, 157, 184, 0, 30, 154, 0, 7, 4, 167, 0, 4, 3, 182, 0, 103, 153, 0, 5, 3, 172, 42, 27]
def kCcX3_feastRound_1 : List Nat := [28, 184, 0, 107, 29, 182, 0, 159, 153, 0, 10, 28, 184, 0, 107, 167, 0, 5, 16, 247, 172]
def kRcX3_feastRound_2 : List Nat := []
def kRcX3_feastRound_1 : List Nat := kCcX3_feastRound_1 ++ kRcX3_feastRound_2
def kRcX3_feastRound_0 : List Nat := kCcX3_feastRound_0 ++ kRcX3_feastRound_1
theorem kRcX3_feastRound_eq : cX3_feastRound.data.toList.map UInt8.toNat = kRcX3_feastRound_0 := by decide +kernel
theorem katcX3_feastRound_0 (i : Nat) : (cX3_feastRound.data.toList.map UInt8.toNat)[0 + i]? = kRcX3_feastRound_0[i]? := by rw [kRcX3_feastRound_eq, Nat.zero_add]
theorem katcX3_feastRound_1 : ∀ i : Nat, (cX3_feastRound.data.toList.map UInt8.toNat)[32 + i]? = kRcX3_feastRound_1[i]? := kstep katcX3_feastRound_0 (C := kCcX3_feastRound_0) rfl rfl
theorem kBcX3_feastRound_0 {b : Nat} (p : Nat) (hp : Nat.ble 0 p = true) (h : kCcX3_feastRound_0[p - 0]? = some b) : kb cX3_feastRound p b := kin katcX3_feastRound_0 rfl hp h
theorem kBcX3_feastRound_1 {b : Nat} (p : Nat) (hp : Nat.ble 32 p = true) (h : kCcX3_feastRound_1[p - 32]? = some b) : kb cX3_feastRound p b := kin katcX3_feastRound_1 rfl hp h
theorem dX3_feastRound_0 : decode cX3_feastRound 0 = .ok (.aload_n 0, 1) := dz_42 (kBcX3_feastRound_0 0 rfl rfl)
theorem dX3_feastRound_1 : decode cX3_feastRound 1 = .ok (.iload_n 1, 1) := dz_27 (kBcX3_feastRound_0 1 rfl rfl)
theorem dX3_feastRound_2 : decode cX3_feastRound 2 = .ok (.invokestatic 96, 3) := dz_184 (kBcX3_feastRound_0 2 rfl rfl) (kBcX3_feastRound_0 3 rfl rfl) (kBcX3_feastRound_0 4 rfl rfl) rfl
theorem dX3_feastRound_5 : decode cX3_feastRound 5 = .ok (.iload_n 3, 1) := dz_29 (kBcX3_feastRound_0 5 rfl rfl)
theorem dX3_feastRound_6 : decode cX3_feastRound 6 = .ok (.i2l, 1) := dz_133 (kBcX3_feastRound_0 6 rfl rfl)
theorem dX3_feastRound_7 : decode cX3_feastRound 7 = .ok (.lconst 1, 1) := dz_10 (kBcX3_feastRound_0 7 rfl rfl)
theorem dX3_feastRound_8 : decode cX3_feastRound 8 = .ok (.ldc2_w 157, 3) := dz_20 (kBcX3_feastRound_0 8 rfl rfl) (kBcX3_feastRound_0 9 rfl rfl) (kBcX3_feastRound_0 10 rfl rfl) rfl
theorem dX3_feastRound_11 : decode cX3_feastRound 11 = .ok (.invokestatic 30, 3) := dz_184 (kBcX3_feastRound_0 11 rfl rfl) (kBcX3_feastRound_0 12 rfl rfl) (kBcX3_feastRound_0 13 rfl rfl) rfl
theorem dX3_feastRound_14 : decode cX3_feastRound 14 = .ok (.ifCond .ne 7, 3) := dz_154 (kBcX3_feastRound_0 14 rfl rfl) (kBcX3_feastRound_0 15 rfl rfl) (kBcX3_feastRound_0 16 rfl rfl) rfl
theorem dX3_feastRound_17 : decode cX3_feastRound 17 = .ok (.iconst 1, 1) := dz_4 (kBcX3_feastRound_0 17 rfl rfl)
theorem dX3_feastRound_18 : decode cX3_feastRound 18 = .ok (.goto 4, 3) := dz_167 (kBcX3_feastRound_0 18 rfl rfl) (kBcX3_feastRound_0 19 rfl rfl) (kBcX3_feastRound_0 20 rfl rfl) rfl
theorem dX3_feastRound_21 : decode cX3_feastRound 21 = .ok (.iconst 0, 1) := dz_3 (kBcX3_feastRound_0 21 rfl rfl)
theorem dX3_feastRound_22 : decode cX3_feastRound 22 = .ok (.invokevirtual 103, 3) := dz_182 (kBcX3_feastRound_0 22 rfl rfl) (kBcX3_feastRound_0 23 rfl rfl) (kBcX3_feastRound_0 24 rfl rfl) rfl
theorem dX3_feastRound_25 : decode cX3_feastRound 25 = .ok (.ifCond .eq 5, 3) := dz_153 (kBcX3_feastRound_0 25 rfl rfl) (kBcX3_feastRound_0 26 rfl rfl) (kBcX3_feastRound_0 27 rfl rfl) rfl
theorem dX3_feastRound_28 : decode cX3_feastRound 28 = .ok (.iconst 0, 1) := dz_3 (kBcX3_feastRound_0 28 rfl rfl)
theorem dX3_feastRound_29 : decode cX3_feastRound 29 = .ok (.ireturn, 1) := dz_172 (kBcX3_feastRound_0 29 rfl rfl)
theorem dX3_feastRound_30 : decode cX3_feastRound 30 = .ok (.aload_n 0, 1) := dz_42 (kBcX3_feastRound_0 30 rfl rfl)
theorem dX3_feastRound_31 : decode cX3_feastRound 31 = .ok (.iload_n 1, 1) := dz_27 (kBcX3_feastRound_0 31 rfl rfl)
theorem dX3_feastRound_32 : decode cX3_feastRound 32 = .ok (.iload_n 2, 1) := dz_28 (kBcX3_feastRound_1 32 rfl rfl)
theorem dX3_feastRound_33 : decode cX3_feastRound 33 = .ok (.invokestatic 107, 3) := dz_184 (kBcX3_feastRound_1 33 rfl rfl) (kBcX3_feastRound_1 34 rfl rfl) (kBcX3_feastRound_1 35 rfl rfl) rfl
theorem dX3_feastRound_36 : decode cX3_feastRound 36 = .ok (.iload_n 3, 1) := dz_29 (kBcX3_feastRound_1 36 rfl rfl)
theorem dX3_feastRound_37 : decode cX3_feastRound 37 = .ok (.invokevirtual 159, 3) := dz_182 (kBcX3_feastRound_1 37 rfl rfl) (kBcX3_feastRound_1 38 rfl rfl) (kBcX3_feastRound_1 39 rfl rfl) rfl
theorem dX3_feastRound_40 : decode cX3_feastRound 40 = .ok (.ifCond .eq 10, 3) := dz_153 (kBcX3_feastRound_1 40 rfl rfl) (kBcX3_feastRound_1 41 rfl rfl) (kBcX3_feastRound_1 42 rfl rfl) rfl
theorem dX3_feastRound_43 : decode cX3_feastRound 43 = .ok (.iload_n 2, 1) := dz_28 (kBcX3_feastRound_1 43 rfl rfl)
theorem dX3_feastRound_44 : decode cX3_feastRound 44 = .ok (.invokestatic 107, 3) := dz_184 (kBcX3_feastRound_1 44 rfl rfl) (kBcX3_feastRound_1 45 rfl rfl) (kBcX3_feastRound_1 46 rfl rfl) rfl
theorem dX3_feastRound_47 : decode cX3_feastRound 47 = .ok (.goto 5, 3) := dz_167 (kBcX3_feastRound_1 47 rfl rfl) (kBcX3_feastRound_1 48 rfl rfl) (kBcX3_feastRound_1 49 rfl rfl) rfl
theorem dX3_feastRound_50 : decode cX3_feastRound 50 = .ok (.bipush (-9), 2) := dz_16 (kBcX3_feastRound_1 50 rfl rfl) (kBcX3_feastRound_1 51 rfl rfl) rfl
theorem dX3_feastRound_52 : decode cX3_feastRound 52 = .ok (.ireturn, 1) := dz_172 (kBcX3_feastRound_1 52 rfl rfl)
def kCcX3_feastMonth_0 : List Nat := [42, 27, 184, 0, 96, 28, 184, 0, 100, 182, 0, 103, 153, 0, 5, 3, 172, 42, 27, 28, 42, 180, 0, 18, 27, 50, 4, 46, 9, 28, 184, 0]
def kCcX3_feastMonth_1 : List Nat := [55, 184, 0, 167, 182, 0, 159, 87, 42, 180, 0, 18, 27, 50, 4, 46, 172]
def kRcX3_feastMonth_2 : List Nat := []
def kRcX3_feastMonth_1 : List Nat := kCcX3_feastMonth_1 ++ kRcX3_feastMonth_2
def kRcX3_feastMonth_0 : List Nat := kCcX3_feastMonth_0 ++ kRcX3_feastMonth_1
theorem kRcX3_feastMonth_eq : cX3_feastMonth.data.toList.map UInt8.toNat = kRcX3_feastMonth_0 := by decide +kernel
theorem katcX3_feastMonth_0 (i : Nat) : (cX3_feastMonth.data.toList.map UInt8.toNat)[0 + i]? = kRcX3_feastMonth_0[i]? := by rw [kRcX3_feastMonth_eq, Nat.zero_add]
theorem katcX3_feastMonth_1 : ∀ i : Nat, (cX3_feastMonth.data.toList.map UInt8.toNat)[32 + i]? = kRcX3_feastMonth_1[i]? := kstep katcX3_feastMonth_0 (C := kCcX3_feastMonth_0) rfl rfl
theorem kBcX3_feastMonth_0 {b : Nat} (p : Nat) (hp : Nat.ble 0 p = true) (h : kCcX3_feastMonth_0[p - 0]? = some b) : kb cX3_feastMonth p b := kin katcX3_feastMonth_0 rfl hp h
theorem kBcX3_feastMonth_1 {b : Nat} (p : Nat) (hp : Nat.ble 32 p = true) (h : kCcX3_feastMonth_1[p - 32]? = some b) : kb cX3_feastMonth p b := kin katcX3_feastMonth_1 rfl hp h
theorem dX3_feastMonth_0 : decode cX3_feastMonth 0 = .ok (.aload_n 0, 1) := dz_42 (kBcX3_feastMonth_0 0 rfl rfl)
theorem dX3_feastMonth_1 : decode cX3_feastMonth 1 = .ok (.iload_n 1, 1) := dz_27 (kBcX3_feastMonth_0 1 rfl rfl)
theorem dX3_feastMonth_2 : decode cX3_feastMonth 2 = .ok (.invokestatic 96, 3) := dz_184 (kBcX3_feastMonth_0 2 rfl rfl) (kBcX3_feastMonth_0 3 rfl rfl) (kBcX3_feastMonth_0 4 rfl rfl) rfl
theorem dX3_feastMonth_5 : decode cX3_feastMonth 5 = .ok (.iload_n 2, 1) := dz_28 (kBcX3_feastMonth_0 5 rfl rfl)
theorem dX3_feastMonth_6 : decode cX3_feastMonth 6 = .ok (.invokestatic 100, 3) := dz_184 (kBcX3_feastMonth_0 6 rfl rfl) (kBcX3_feastMonth_0 7 rfl rfl) (kBcX3_feastMonth_0 8 rfl rfl) rfl
theorem dX3_feastMonth_9 : decode cX3_feastMonth 9 = .ok (.invokevirtual 103, 3) := dz_182 (kBcX3_feastMonth_0 9 rfl rfl) (kBcX3_feastMonth_0 10 rfl rfl) (kBcX3_feastMonth_0 11 rfl rfl) rfl
theorem dX3_feastMonth_12 : decode cX3_feastMonth 12 = .ok (.ifCond .eq 5, 3) := dz_153 (kBcX3_feastMonth_0 12 rfl rfl) (kBcX3_feastMonth_0 13 rfl rfl) (kBcX3_feastMonth_0 14 rfl rfl) rfl
theorem dX3_feastMonth_15 : decode cX3_feastMonth 15 = .ok (.iconst 0, 1) := dz_3 (kBcX3_feastMonth_0 15 rfl rfl)
theorem dX3_feastMonth_16 : decode cX3_feastMonth 16 = .ok (.ireturn, 1) := dz_172 (kBcX3_feastMonth_0 16 rfl rfl)
theorem dX3_feastMonth_17 : decode cX3_feastMonth 17 = .ok (.aload_n 0, 1) := dz_42 (kBcX3_feastMonth_0 17 rfl rfl)
theorem dX3_feastMonth_18 : decode cX3_feastMonth 18 = .ok (.iload_n 1, 1) := dz_27 (kBcX3_feastMonth_0 18 rfl rfl)
theorem dX3_feastMonth_19 : decode cX3_feastMonth 19 = .ok (.iload_n 2, 1) := dz_28 (kBcX3_feastMonth_0 19 rfl rfl)
theorem dX3_feastMonth_20 : decode cX3_feastMonth 20 = .ok (.aload_n 0, 1) := dz_42 (kBcX3_feastMonth_0 20 rfl rfl)
theorem dX3_feastMonth_21 : decode cX3_feastMonth 21 = .ok (.getfield 18, 3) := dz_180 (kBcX3_feastMonth_0 21 rfl rfl) (kBcX3_feastMonth_0 22 rfl rfl) (kBcX3_feastMonth_0 23 rfl rfl) rfl
theorem dX3_feastMonth_24 : decode cX3_feastMonth 24 = .ok (.iload_n 1, 1) := dz_27 (kBcX3_feastMonth_0 24 rfl rfl)
theorem dX3_feastMonth_25 : decode cX3_feastMonth 25 = .ok (.aaload, 1) := dz_50 (kBcX3_feastMonth_0 25 rfl rfl)
theorem dX3_feastMonth_26 : decode cX3_feastMonth 26 = .ok (.iconst 1, 1) := dz_4 (kBcX3_feastMonth_0 26 rfl rfl)
theorem dX3_feastMonth_27 : decode cX3_feastMonth 27 = .ok (.iaload, 1) := dz_46 (kBcX3_feastMonth_0 27 rfl rfl)
theorem dX3_feastMonth_28 : decode cX3_feastMonth 28 = .ok (.lconst 0, 1) := dz_9 (kBcX3_feastMonth_0 28 rfl rfl)
theorem dX3_feastMonth_29 : decode cX3_feastMonth 29 = .ok (.iload_n 2, 1) := dz_28 (kBcX3_feastMonth_0 29 rfl rfl)
theorem dX3_feastMonth_30 : decode cX3_feastMonth 30 = .ok (.invokestatic 55, 3) := dz_184 (kBcX3_feastMonth_0 30 rfl rfl) (kBcX3_feastMonth_0 31 rfl rfl) (kBcX3_feastMonth_1 32 rfl rfl) rfl
theorem dX3_feastMonth_33 : decode cX3_feastMonth 33 = .ok (.invokestatic 167, 3) := dz_184 (kBcX3_feastMonth_1 33 rfl rfl) (kBcX3_feastMonth_1 34 rfl rfl) (kBcX3_feastMonth_1 35 rfl rfl) rfl
theorem dX3_feastMonth_36 : decode cX3_feastMonth 36 = .ok (.invokevirtual 159, 3) := dz_182 (kBcX3_feastMonth_1 36 rfl rfl) (kBcX3_feastMonth_1 37 rfl rfl) (kBcX3_feastMonth_1 38 rfl rfl) rfl
theorem dX3_feastMonth_39 : decode cX3_feastMonth 39 = .ok (.pop, 1) := dz_87 (kBcX3_feastMonth_1 39 rfl rfl)
theorem dX3_feastMonth_40 : decode cX3_feastMonth 40 = .ok (.aload_n 0, 1) := dz_42 (kBcX3_feastMonth_1 40 rfl rfl)
theorem dX3_feastMonth_41 : decode cX3_feastMonth 41 = .ok (.getfield 18, 3) := dz_180 (kBcX3_feastMonth_1 41 rfl rfl) (kBcX3_feastMonth_1 42 rfl rfl) (kBcX3_feastMonth_1 43 rfl rfl) rfl
theorem dX3_feastMonth_44 : decode cX3_feastMonth 44 = .ok (.iload_n 1, 1) := dz_27 (kBcX3_feastMonth_1 44 rfl rfl)
theorem dX3_feastMonth_45 : decode cX3_feastMonth 45 = .ok (.aaload, 1) := dz_50 (kBcX3_feastMonth_1 45 rfl rfl)
theorem dX3_feastMonth_46 : decode cX3_feastMonth 46 = .ok (.iconst 1, 1) := dz_4 (kBcX3_feastMonth_1 46 rfl rfl)
theorem dX3_feastMonth_47 : decode cX3_feastMonth 47 = .ok (.iaload, 1) := dz_46 (kBcX3_feastMonth_1 47 rfl rfl)
theorem dX3_feastMonth_48 : decode cX3_feastMonth 48 = .ok (.ireturn, 1) := dz_172 (kBcX3_feastMonth_1 48 rfl rfl)
def kCcX3_feastDay_0 : List Nat := [42, 27, 184, 0, 96, 28, 133, 10, 20, 0, 157, 184, 0, 30, 154, 0, 7, 4, 167, 0, 4, 3, 182, 0, 103, 153, 0, 5, 3, 172, 42, 180]
def kCcX3_feastDay_1 : List Nat := [0, 18, 27, 50, 4, 46, 54, 4, 42, 27, 42, 180, 0, 18, 27, 50, 3, 46, 28, 182, 0, 159, 153, 0, 8, 21, 4, 167, 0, 5, 16, 247]
def kCcX3_feastDay_2 : List Nat := [172]
def kRcX3_feastDay_3 : List Nat := []
def kRcX3_feastDay_2 : List Nat := kCcX3_feastDay_2 ++ kRcX3_feastDay_3
def kRcX3_feastDay_1 : List Nat := kCcX3_feastDay_1 ++ kRcX3_feastDay_2
def kRcX3_feastDay_0 : List Nat := kCcX3_feastDay_0 ++ kRcX3_feastDay_1
theorem kRcX3_feastDay_eq : cX3_feastDay.data.toList.map UInt8.toNat = kRcX3_feastDay_0 := by decide +kernel
theorem katcX3_feastDay_0 (i : Nat) : (cX3_feastDay.data.toList.map UInt8.toNat)[0 + i]? = kRcX3_feastDay_0[i]? := by rw [kRcX3_feastDay_eq, Nat.zero_add]
theorem katcX3_feastDay_1 : ∀ i : Nat, (cX3_feastDay.data.toList.map UInt8.toNat)[32 + i]? = kRcX3_feastDay_1[i]? := kstep katcX3_feastDay_0 (C := kCcX3_feastDay_0) rfl rfl
theorem katcX3_feastDay_2 : ∀ i : Nat, (cX3_feastDay.data.toList.map UInt8.toNat)[64 + i]? = kRcX3_feastDay_2[i]? := kstep katcX3_feastDay_1 (C := kCcX3_feastDay_1) rfl rfl
theorem kBcX3_feastDay_0 {b : Nat} (p : Nat) (hp : Nat.ble 0 p = true) (h : kCcX3_feastDay_0[p - 0]? = some b) : kb cX3_feastDay p b := kin katcX3_feastDay_0 rfl hp h
theorem kBcX3_feastDay_1 {b : Nat} (p : Nat) (hp : Nat.ble 32 p = true) (h : kCcX3_feastDay_1[p - 32]? = some b) : kb cX3_feastDay p b := kin katcX3_feastDay_1 rfl hp h
theorem kBcX3_feastDay_2 {b : Nat} (p : Nat) (hp : Nat.ble 64 p = true) (h : kCcX3_feastDay_2[p - 64]? = some b) : kb cX3_feastDay p b := kin katcX3_feastDay_2 rfl hp h
theorem dX3_feastDay_0 : decode cX3_feastDay 0 = .ok (.aload_n 0, 1) := dz_42 (kBcX3_feastDay_0 0 rfl rfl)
theorem dX3_feastDay_1 : decode cX3_feastDay 1 = .ok (.iload_n 1, 1) := dz_27 (kBcX3_feastDay_0 1 rfl rfl)
theorem dX3_feastDay_2 : decode cX3_feastDay 2 = .ok (.invokestatic 96, 3) := dz_184 (kBcX3_feastDay_0 2 rfl rfl) (kBcX3_feastDay_0 3 rfl rfl) (kBcX3_feastDay_0 4 rfl rfl) rfl
theorem dX3_feastDay_5 : decode cX3_feastDay 5 = .ok (.iload_n 2, 1) := dz_28 (kBcX3_feastDay_0 5 rfl rfl)
theorem dX3_feastDay_6 : decode cX3_feastDay 6 = .ok (.i2l, 1) := dz_133 (kBcX3_feastDay_0 6 rfl rfl)
theorem dX3_feastDay_7 : decode cX3_feastDay 7 = .ok (.lconst 1, 1) := dz_10 (kBcX3_feastDay_0 7 rfl rfl)
theorem dX3_feastDay_8 : decode cX3_feastDay 8 = .ok (.ldc2_w 157, 3) := dz_20 (kBcX3_feastDay_0 8 rfl rfl) (kBcX3_feastDay_0 9 rfl rfl) (kBcX3_feastDay_0 10 rfl rfl) rfl
theorem dX3_feastDay_11 : decode cX3_feastDay 11 = .ok (.invokestatic 30, 3) := dz_184 (kBcX3_feastDay_0 11 rfl rfl) (kBcX3_feastDay_0 12 rfl rfl) (kBcX3_feastDay_0 13 rfl rfl) rfl
theorem dX3_feastDay_14 : decode cX3_feastDay 14 = .ok (.ifCond .ne 7, 3) := dz_154 (kBcX3_feastDay_0 14 rfl rfl) (kBcX3_feastDay_0 15 rfl rfl) (kBcX3_feastDay_0 16 rfl rfl) rfl
theorem dX3_feastDay_17 : decode cX3_feastDay 17 = .ok (.iconst 1, 1) := dz_4 (kBcX3_feastDay_0 17 rfl rfl)
theorem dX3_feastDay_18 : decode cX3_feastDay 18 = .ok (.goto 4, 3) := dz_167 (kBcX3_feastDay_0 18 rfl rfl) (kBcX3_feastDay_0 19 rfl rfl) (kBcX3_feastDay_0 20 rfl rfl) rfl
theorem dX3_feastDay_21 : decode cX3_feastDay 21 = .ok (.iconst 0, 1) := dz_3 (kBcX3_feastDay_0 21 rfl rfl)
theorem dX3_feastDay_22 : decode cX3_feastDay 22 = .ok (.invokevirtual 103, 3) := dz_182 (kBcX3_feastDay_0 22 rfl rfl) (kBcX3_feastDay_0 23 rfl rfl) (kBcX3_feastDay_0 24 rfl rfl) rfl
theorem dX3_feastDay_25 : decode cX3_feastDay 25 = .ok (.ifCond .eq 5, 3) := dz_153 (kBcX3_feastDay_0 25 rfl rfl) (kBcX3_feastDay_0 26 rfl rfl) (kBcX3_feastDay_0 27 rfl rfl) rfl
theorem dX3_feastDay_28 : decode cX3_feastDay 28 = .ok (.iconst 0, 1) := dz_3 (kBcX3_feastDay_0 28 rfl rfl)
theorem dX3_feastDay_29 : decode cX3_feastDay 29 = .ok (.ireturn, 1) := dz_172 (kBcX3_feastDay_0 29 rfl rfl)
theorem dX3_feastDay_30 : decode cX3_feastDay 30 = .ok (.aload_n 0, 1) := dz_42 (kBcX3_feastDay_0 30 rfl rfl)
theorem dX3_feastDay_31 : decode cX3_feastDay 31 = .ok (.getfield 18, 3) := dz_180 (kBcX3_feastDay_0 31 rfl rfl) (kBcX3_feastDay_1 32 rfl rfl) (kBcX3_feastDay_1 33 rfl rfl) rfl
theorem dX3_feastDay_34 : decode cX3_feastDay 34 = .ok (.iload_n 1, 1) := dz_27 (kBcX3_feastDay_1 34 rfl rfl)
theorem dX3_feastDay_35 : decode cX3_feastDay 35 = .ok (.aaload, 1) := dz_50 (kBcX3_feastDay_1 35 rfl rfl)
theorem dX3_feastDay_36 : decode cX3_feastDay 36 = .ok (.iconst 1, 1) := dz_4 (kBcX3_feastDay_1 36 rfl rfl)
theorem dX3_feastDay_37 : decode cX3_feastDay 37 = .ok (.iaload, 1) := dz_46 (kBcX3_feastDay_1 37 rfl rfl)
theorem dX3_feastDay_38 : decode cX3_feastDay 38 = .ok (.istore 4, 2) := dz_54 (kBcX3_feastDay_1 38 rfl rfl) (kBcX3_feastDay_1 39 rfl rfl)
theorem dX3_feastDay_40 : decode cX3_feastDay 40 = .ok (.aload_n 0, 1) := dz_42 (kBcX3_feastDay_1 40 rfl rfl)
theorem dX3_feastDay_41 : decode cX3_feastDay 41 = .ok (.iload_n 1, 1) := dz_27 (kBcX3_feastDay_1 41 rfl rfl)
theorem dX3_feastDay_42 : decode cX3_feastDay 42 = .ok (.aload_n 0, 1) := dz_42 (kBcX3_feastDay_1 42 rfl rfl)
theorem dX3_feastDay_43 : decode cX3_feastDay 43 = .ok (.getfield 18, 3) := dz_180 (kBcX3_feastDay_1 43 rfl rfl) (kBcX3_feastDay_1 44 rfl rfl) (kBcX3_feastDay_1 45 rfl rfl) rfl
theorem dX3_feastDay_46 : decode cX3_feastDay 46 = .ok (.iload_n 1, 1) := dz_27 (kBcX3_feastDay_1 46 rfl rfl)
theorem dX3_feastDay_47 : decode cX3_feastDay 47 = .ok (.aaload, 1) := dz_50 (kBcX3_feastDay_1 47 rfl rfl)
theorem dX3_feastDay_48 : decode cX3_feastDay 48 = .ok (.iconst 0, 1) := dz_3 (kBcX3_feastDay_1 48 rfl rfl)
theorem dX3_feastDay_49 : decode cX3_feastDay 49 = .ok (.iaload, 1) := dz_46 (kBcX3_feastDay_1 49 rfl rfl)
theorem dX3_feastDay_50 : decode cX3_feastDay 50 = .ok (.iload_n 2, 1) := dz_28 (kBcX3_feastDay_1 50 rfl rfl)
theorem dX3_feastDay_51 : decode cX3_feastDay 51 = .ok (.invokevirtual 159, 3) := dz_182 (kBcX3_feastDay_1 51 rfl rfl) (kBcX3_feastDay_1 52 rfl rfl) (kBcX3_feastDay_1 53 rfl rfl) rfl
theorem dX3_feastDay_54 : decode cX3_feastDay 54 = .ok (.ifCond .eq 8, 3) := dz_153 (kBcX3_feastDay_1 54 rfl rfl) (kBcX3_feastDay_1 55 rfl rfl) (kBcX3_feastDay_1 56 rfl rfl) rfl
theorem dX3_feastDay_57 : decode cX3_feastDay 57 = .ok (.iload 4, 2) := dz_21 (kBcX3_feastDay_1 57 rfl rfl) (kBcX3_feastDay_1 58 rfl rfl)
theorem dX3_feastDay_59 : decode cX3_feastDay 59 = .ok (.goto 5, 3) := dz_167 (kBcX3_feastDay_1 59 rfl rfl) (kBcX3_feastDay_1 60 rfl rfl) (kBcX3_feastDay_1 61 rfl rfl) rfl
theorem dX3_feastDay_62 : decode cX3_feastDay 62 = .ok (.bipush (-9), 2) := dz_16 (kBcX3_feastDay_1 62 rfl rfl) (kBcX3_feastDay_1 63 rfl rfl) rfl
theorem dX3_feastDay_64 : decode cX3_feastDay 64 = .ok (.ireturn, 1) := dz_172 (kBcX3_feastDay_2 64 rfl rfl)
def kCcX3_feastOf_0 : List Nat := [42, 27, 184, 0, 96, 154, 0, 10, 28, 184, 0, 96, 153, 0, 7, 4, 167, 0, 4, 3, 3, 182, 0, 103, 153, 0, 5, 3, 172, 42, 27, 42]
def kCcX3_feastOf_1 : List Nat := [180, 0, 21, 28, 50, 4, 46, 42, 180, 0, 21, 28, 50, 5, 46, 182, 0, 159, 87, 42, 180, 0, 18, 27, 50, 184, 0, 163, 184, 0, 78, 172]
def kRcX3_feastOf_2 : List Nat := []
def kRcX3_feastOf_1 : List Nat := kCcX3_feastOf_1 ++ kRcX3_feastOf_2
def kRcX3_feastOf_0 : List Nat := kCcX3_feastOf_0 ++ kRcX3_feastOf_1
theorem kRcX3_feastOf_eq : cX3_feastOf.data.toList.map UInt8.toNat = kRcX3_feastOf_0 := by decide +kernel
theorem katcX3_feastOf_0 (i : Nat) : (cX3_feastOf.data.toList.map UInt8.toNat)[0 + i]? = kRcX3_feastOf_0[i]? := by rw [kRcX3_feastOf_eq, Nat.zero_add]
theorem katcX3_feastOf_1 : ∀ i : Nat, (cX3_feastOf.data.toList.map UInt8.toNat)[32 + i]? = kRcX3_feastOf_1[i]? := kstep katcX3_feastOf_0 (C := kCcX3_feastOf_0) rfl rfl
theorem kBcX3_feastOf_0 {b : Nat} (p : Nat) (hp : Nat.ble 0 p = true) (h : kCcX3_feastOf_0[p - 0]? = some b) : kb cX3_feastOf p b := kin katcX3_feastOf_0 rfl hp h
theorem kBcX3_feastOf_1 {b : Nat} (p : Nat) (hp : Nat.ble 32 p = true) (h : kCcX3_feastOf_1[p - 32]? = some b) : kb cX3_feastOf p b := kin katcX3_feastOf_1 rfl hp h
theorem dX3_feastOf_0 : decode cX3_feastOf 0 = .ok (.aload_n 0, 1) := dz_42 (kBcX3_feastOf_0 0 rfl rfl)
theorem dX3_feastOf_1 : decode cX3_feastOf 1 = .ok (.iload_n 1, 1) := dz_27 (kBcX3_feastOf_0 1 rfl rfl)
theorem dX3_feastOf_2 : decode cX3_feastOf 2 = .ok (.invokestatic 96, 3) := dz_184 (kBcX3_feastOf_0 2 rfl rfl) (kBcX3_feastOf_0 3 rfl rfl) (kBcX3_feastOf_0 4 rfl rfl) rfl
theorem dX3_feastOf_5 : decode cX3_feastOf 5 = .ok (.ifCond .ne 10, 3) := dz_154 (kBcX3_feastOf_0 5 rfl rfl) (kBcX3_feastOf_0 6 rfl rfl) (kBcX3_feastOf_0 7 rfl rfl) rfl
theorem dX3_feastOf_8 : decode cX3_feastOf 8 = .ok (.iload_n 2, 1) := dz_28 (kBcX3_feastOf_0 8 rfl rfl)
theorem dX3_feastOf_9 : decode cX3_feastOf 9 = .ok (.invokestatic 96, 3) := dz_184 (kBcX3_feastOf_0 9 rfl rfl) (kBcX3_feastOf_0 10 rfl rfl) (kBcX3_feastOf_0 11 rfl rfl) rfl
theorem dX3_feastOf_12 : decode cX3_feastOf 12 = .ok (.ifCond .eq 7, 3) := dz_153 (kBcX3_feastOf_0 12 rfl rfl) (kBcX3_feastOf_0 13 rfl rfl) (kBcX3_feastOf_0 14 rfl rfl) rfl
theorem dX3_feastOf_15 : decode cX3_feastOf 15 = .ok (.iconst 1, 1) := dz_4 (kBcX3_feastOf_0 15 rfl rfl)
theorem dX3_feastOf_16 : decode cX3_feastOf 16 = .ok (.goto 4, 3) := dz_167 (kBcX3_feastOf_0 16 rfl rfl) (kBcX3_feastOf_0 17 rfl rfl) (kBcX3_feastOf_0 18 rfl rfl) rfl
theorem dX3_feastOf_19 : decode cX3_feastOf 19 = .ok (.iconst 0, 1) := dz_3 (kBcX3_feastOf_0 19 rfl rfl)
theorem dX3_feastOf_20 : decode cX3_feastOf 20 = .ok (.iconst 0, 1) := dz_3 (kBcX3_feastOf_0 20 rfl rfl)
theorem dX3_feastOf_21 : decode cX3_feastOf 21 = .ok (.invokevirtual 103, 3) := dz_182 (kBcX3_feastOf_0 21 rfl rfl) (kBcX3_feastOf_0 22 rfl rfl) (kBcX3_feastOf_0 23 rfl rfl) rfl
theorem dX3_feastOf_24 : decode cX3_feastOf 24 = .ok (.ifCond .eq 5, 3) := dz_153 (kBcX3_feastOf_0 24 rfl rfl) (kBcX3_feastOf_0 25 rfl rfl) (kBcX3_feastOf_0 26 rfl rfl) rfl
theorem dX3_feastOf_27 : decode cX3_feastOf 27 = .ok (.iconst 0, 1) := dz_3 (kBcX3_feastOf_0 27 rfl rfl)
theorem dX3_feastOf_28 : decode cX3_feastOf 28 = .ok (.ireturn, 1) := dz_172 (kBcX3_feastOf_0 28 rfl rfl)
theorem dX3_feastOf_29 : decode cX3_feastOf 29 = .ok (.aload_n 0, 1) := dz_42 (kBcX3_feastOf_0 29 rfl rfl)
theorem dX3_feastOf_30 : decode cX3_feastOf 30 = .ok (.iload_n 1, 1) := dz_27 (kBcX3_feastOf_0 30 rfl rfl)
theorem dX3_feastOf_31 : decode cX3_feastOf 31 = .ok (.aload_n 0, 1) := dz_42 (kBcX3_feastOf_0 31 rfl rfl)
theorem dX3_feastOf_32 : decode cX3_feastOf 32 = .ok (.getfield 21, 3) := dz_180 (kBcX3_feastOf_1 32 rfl rfl) (kBcX3_feastOf_1 33 rfl rfl) (kBcX3_feastOf_1 34 rfl rfl) rfl
theorem dX3_feastOf_35 : decode cX3_feastOf 35 = .ok (.iload_n 2, 1) := dz_28 (kBcX3_feastOf_1 35 rfl rfl)
theorem dX3_feastOf_36 : decode cX3_feastOf 36 = .ok (.aaload, 1) := dz_50 (kBcX3_feastOf_1 36 rfl rfl)
theorem dX3_feastOf_37 : decode cX3_feastOf 37 = .ok (.iconst 1, 1) := dz_4 (kBcX3_feastOf_1 37 rfl rfl)
theorem dX3_feastOf_38 : decode cX3_feastOf 38 = .ok (.iaload, 1) := dz_46 (kBcX3_feastOf_1 38 rfl rfl)
theorem dX3_feastOf_39 : decode cX3_feastOf 39 = .ok (.aload_n 0, 1) := dz_42 (kBcX3_feastOf_1 39 rfl rfl)
theorem dX3_feastOf_40 : decode cX3_feastOf 40 = .ok (.getfield 21, 3) := dz_180 (kBcX3_feastOf_1 40 rfl rfl) (kBcX3_feastOf_1 41 rfl rfl) (kBcX3_feastOf_1 42 rfl rfl) rfl
theorem dX3_feastOf_43 : decode cX3_feastOf 43 = .ok (.iload_n 2, 1) := dz_28 (kBcX3_feastOf_1 43 rfl rfl)
theorem dX3_feastOf_44 : decode cX3_feastOf 44 = .ok (.aaload, 1) := dz_50 (kBcX3_feastOf_1 44 rfl rfl)
theorem dX3_feastOf_45 : decode cX3_feastOf 45 = .ok (.iconst 2, 1) := dz_5 (kBcX3_feastOf_1 45 rfl rfl)
theorem dX3_feastOf_46 : decode cX3_feastOf 46 = .ok (.iaload, 1) := dz_46 (kBcX3_feastOf_1 46 rfl rfl)
theorem dX3_feastOf_47 : decode cX3_feastOf 47 = .ok (.invokevirtual 159, 3) := dz_182 (kBcX3_feastOf_1 47 rfl rfl) (kBcX3_feastOf_1 48 rfl rfl) (kBcX3_feastOf_1 49 rfl rfl) rfl
theorem dX3_feastOf_50 : decode cX3_feastOf 50 = .ok (.pop, 1) := dz_87 (kBcX3_feastOf_1 50 rfl rfl)
theorem dX3_feastOf_51 : decode cX3_feastOf 51 = .ok (.aload_n 0, 1) := dz_42 (kBcX3_feastOf_1 51 rfl rfl)
theorem dX3_feastOf_52 : decode cX3_feastOf 52 = .ok (.getfield 18, 3) := dz_180 (kBcX3_feastOf_1 52 rfl rfl) (kBcX3_feastOf_1 53 rfl rfl) (kBcX3_feastOf_1 54 rfl rfl) rfl
theorem dX3_feastOf_55 : decode cX3_feastOf 55 = .ok (.iload_n 1, 1) := dz_27 (kBcX3_feastOf_1 55 rfl rfl)
theorem dX3_feastOf_56 : decode cX3_feastOf 56 = .ok (.aaload, 1) := dz_50 (kBcX3_feastOf_1 56 rfl rfl)
theorem dX3_feastOf_57 : decode cX3_feastOf 57 = .ok (.invokestatic 163, 3) := dz_184 (kBcX3_feastOf_1 57 rfl rfl) (kBcX3_feastOf_1 58 rfl rfl) (kBcX3_feastOf_1 59 rfl rfl) rfl
theorem dX3_feastOf_60 : decode cX3_feastOf 60 = .ok (.invokestatic 78, 3) := dz_184 (kBcX3_feastOf_1 60 rfl rfl) (kBcX3_feastOf_1 61 rfl rfl) (kBcX3_feastOf_1 62 rfl rfl) rfl
theorem dX3_feastOf_63 : decode cX3_feastOf 63 = .ok (.ireturn, 1) := dz_172 (kBcX3_feastOf_1 63 rfl rfl)
def kCcX3_feastLike_0 : List Nat := [42, 27, 184, 0, 96, 154, 0, 10, 28, 184, 0, 96, 153, 0, 7, 4, 167, 0, 4, 3, 3, 182, 0, 103, 153, 0, 5, 3, 172, 42, 180, 0]
def kCcX3_feastLike_1 : List Nat := [18, 27, 50, 42, 180, 0, 18, 28, 50, 184, 0, 144, 62, 42, 27, 42, 180, 0, 18, 28, 50, 3, 46, 42, 180, 0, 18, 28, 50, 4, 46, 182]
def kCcX3_feastLike_2 : List Nat := [0, 159, 87, 29, 184, 0, 78, 172]
def kRcX3_feastLike_3 : List Nat := []
def kRcX3_feastLike_2 : List Nat := kCcX3_feastLike_2 ++ kRcX3_feastLike_3
def kRcX3_feastLike_1 : List Nat := kCcX3_feastLike_1 ++ kRcX3_feastLike_2
def kRcX3_feastLike_0 : List Nat := kCcX3_feastLike_0 ++ kRcX3_feastLike_1
theorem kRcX3_feastLike_eq : cX3_feastLike.data.toList.map UInt8.toNat = kRcX3_feastLike_0 := by decide +kernel
theorem katcX3_feastLike_0 (i : Nat) : (cX3_feastLike.data.toList.map UInt8.toNat)[0 + i]? = kRcX3_feastLike_0[i]? := by rw [kRcX3_feastLike_eq, Nat.zero_add]
theorem katcX3_feastLike_1 : ∀ i : Nat, (cX3_feastLike.data.toList.map UInt8.toNat)[32 + i]? = kRcX3_feastLike_1[i]? := kstep katcX3_feastLike_0 (C := kCcX3_feastLike_0) rfl rfl
theorem katcX3_feastLike_2 : ∀ i : Nat, (cX3_feastLike.data.toList.map UInt8.toNat)[64 + i]? = kRcX3_feastLike_2[i]? := kstep katcX3_feastLike_1 (C := kCcX3_feastLike_1) rfl rfl
theorem kBcX3_feastLike_0 {b : Nat} (p : Nat) (hp : Nat.ble 0 p = true) (h : kCcX3_feastLike_0[p - 0]? = some b) : kb cX3_feastLike p b := kin katcX3_feastLike_0 rfl hp h
theorem kBcX3_feastLike_1 {b : Nat} (p : Nat) (hp : Nat.ble 32 p = true) (h : kCcX3_feastLike_1[p - 32]? = some b) : kb cX3_feastLike p b := kin katcX3_feastLike_1 rfl hp h
theorem kBcX3_feastLike_2 {b : Nat} (p : Nat) (hp : Nat.ble 64 p = true) (h : kCcX3_feastLike_2[p - 64]? = some b) : kb cX3_feastLike p b := kin katcX3_feastLike_2 rfl hp h
theorem dX3_feastLike_0 : decode cX3_feastLike 0 = .ok (.aload_n 0, 1) := dz_42 (kBcX3_feastLike_0 0 rfl rfl)
theorem dX3_feastLike_1 : decode cX3_feastLike 1 = .ok (.iload_n 1, 1) := dz_27 (kBcX3_feastLike_0 1 rfl rfl)
theorem dX3_feastLike_2 : decode cX3_feastLike 2 = .ok (.invokestatic 96, 3) := dz_184 (kBcX3_feastLike_0 2 rfl rfl) (kBcX3_feastLike_0 3 rfl rfl) (kBcX3_feastLike_0 4 rfl rfl) rfl
theorem dX3_feastLike_5 : decode cX3_feastLike 5 = .ok (.ifCond .ne 10, 3) := dz_154 (kBcX3_feastLike_0 5 rfl rfl) (kBcX3_feastLike_0 6 rfl rfl) (kBcX3_feastLike_0 7 rfl rfl) rfl
theorem dX3_feastLike_8 : decode cX3_feastLike 8 = .ok (.iload_n 2, 1) := dz_28 (kBcX3_feastLike_0 8 rfl rfl)
theorem dX3_feastLike_9 : decode cX3_feastLike 9 = .ok (.invokestatic 96, 3) := dz_184 (kBcX3_feastLike_0 9 rfl rfl) (kBcX3_feastLike_0 10 rfl rfl) (kBcX3_feastLike_0 11 rfl rfl) rfl
theorem dX3_feastLike_12 : decode cX3_feastLike 12 = .ok (.ifCond .eq 7, 3) := dz_153 (kBcX3_feastLike_0 12 rfl rfl) (kBcX3_feastLike_0 13 rfl rfl) (kBcX3_feastLike_0 14 rfl rfl) rfl
theorem dX3_feastLike_15 : decode cX3_feastLike 15 = .ok (.iconst 1, 1) := dz_4 (kBcX3_feastLike_0 15 rfl rfl)
theorem dX3_feastLike_16 : decode cX3_feastLike 16 = .ok (.goto 4, 3) := dz_167 (kBcX3_feastLike_0 16 rfl rfl) (kBcX3_feastLike_0 17 rfl rfl) (kBcX3_feastLike_0 18 rfl rfl) rfl
theorem dX3_feastLike_19 : decode cX3_feastLike 19 = .ok (.iconst 0, 1) := dz_3 (kBcX3_feastLike_0 19 rfl rfl)
theorem dX3_feastLike_20 : decode cX3_feastLike 20 = .ok (.iconst 0, 1) := dz_3 (kBcX3_feastLike_0 20 rfl rfl)
theorem dX3_feastLike_21 : decode cX3_feastLike 21 = .ok (.invokevirtual 103, 3) := dz_182 (kBcX3_feastLike_0 21 rfl rfl) (kBcX3_feastLike_0 22 rfl rfl) (kBcX3_feastLike_0 23 rfl rfl) rfl
theorem dX3_feastLike_24 : decode cX3_feastLike 24 = .ok (.ifCond .eq 5, 3) := dz_153 (kBcX3_feastLike_0 24 rfl rfl) (kBcX3_feastLike_0 25 rfl rfl) (kBcX3_feastLike_0 26 rfl rfl) rfl
theorem dX3_feastLike_27 : decode cX3_feastLike 27 = .ok (.iconst 0, 1) := dz_3 (kBcX3_feastLike_0 27 rfl rfl)
theorem dX3_feastLike_28 : decode cX3_feastLike 28 = .ok (.ireturn, 1) := dz_172 (kBcX3_feastLike_0 28 rfl rfl)
theorem dX3_feastLike_29 : decode cX3_feastLike 29 = .ok (.aload_n 0, 1) := dz_42 (kBcX3_feastLike_0 29 rfl rfl)
theorem dX3_feastLike_30 : decode cX3_feastLike 30 = .ok (.getfield 18, 3) := dz_180 (kBcX3_feastLike_0 30 rfl rfl) (kBcX3_feastLike_0 31 rfl rfl) (kBcX3_feastLike_1 32 rfl rfl) rfl
theorem dX3_feastLike_33 : decode cX3_feastLike 33 = .ok (.iload_n 1, 1) := dz_27 (kBcX3_feastLike_1 33 rfl rfl)
theorem dX3_feastLike_34 : decode cX3_feastLike 34 = .ok (.aaload, 1) := dz_50 (kBcX3_feastLike_1 34 rfl rfl)
theorem dX3_feastLike_35 : decode cX3_feastLike 35 = .ok (.aload_n 0, 1) := dz_42 (kBcX3_feastLike_1 35 rfl rfl)
theorem dX3_feastLike_36 : decode cX3_feastLike 36 = .ok (.getfield 18, 3) := dz_180 (kBcX3_feastLike_1 36 rfl rfl) (kBcX3_feastLike_1 37 rfl rfl) (kBcX3_feastLike_1 38 rfl rfl) rfl
theorem dX3_feastLike_39 : decode cX3_feastLike 39 = .ok (.iload_n 2, 1) := dz_28 (kBcX3_feastLike_1 39 rfl rfl)
theorem dX3_feastLike_40 : decode cX3_feastLike 40 = .ok (.aaload, 1) := dz_50 (kBcX3_feastLike_1 40 rfl rfl)
theorem dX3_feastLike_41 : decode cX3_feastLike 41 = .ok (.invokestatic 144, 3) := dz_184 (kBcX3_feastLike_1 41 rfl rfl) (kBcX3_feastLike_1 42 rfl rfl) (kBcX3_feastLike_1 43 rfl rfl) rfl
theorem dX3_feastLike_44 : decode cX3_feastLike 44 = .ok (.istore_n 3, 1) := dz_62 (kBcX3_feastLike_1 44 rfl rfl)
theorem dX3_feastLike_45 : decode cX3_feastLike 45 = .ok (.aload_n 0, 1) := dz_42 (kBcX3_feastLike_1 45 rfl rfl)
theorem dX3_feastLike_46 : decode cX3_feastLike 46 = .ok (.iload_n 1, 1) := dz_27 (kBcX3_feastLike_1 46 rfl rfl)
theorem dX3_feastLike_47 : decode cX3_feastLike 47 = .ok (.aload_n 0, 1) := dz_42 (kBcX3_feastLike_1 47 rfl rfl)
theorem dX3_feastLike_48 : decode cX3_feastLike 48 = .ok (.getfield 18, 3) := dz_180 (kBcX3_feastLike_1 48 rfl rfl) (kBcX3_feastLike_1 49 rfl rfl) (kBcX3_feastLike_1 50 rfl rfl) rfl
theorem dX3_feastLike_51 : decode cX3_feastLike 51 = .ok (.iload_n 2, 1) := dz_28 (kBcX3_feastLike_1 51 rfl rfl)
theorem dX3_feastLike_52 : decode cX3_feastLike 52 = .ok (.aaload, 1) := dz_50 (kBcX3_feastLike_1 52 rfl rfl)
theorem dX3_feastLike_53 : decode cX3_feastLike 53 = .ok (.iconst 0, 1) := dz_3 (kBcX3_feastLike_1 53 rfl rfl)
theorem dX3_feastLike_54 : decode cX3_feastLike 54 = .ok (.iaload, 1) := dz_46 (kBcX3_feastLike_1 54 rfl rfl)
theorem dX3_feastLike_55 : decode cX3_feastLike 55 = .ok (.aload_n 0, 1) := dz_42 (kBcX3_feastLike_1 55 rfl rfl)
theorem dX3_feastLike_56 : decode cX3_feastLike 56 = .ok (.getfield 18, 3) := dz_180 (kBcX3_feastLike_1 56 rfl rfl) (kBcX3_feastLike_1 57 rfl rfl) (kBcX3_feastLike_1 58 rfl rfl) rfl
theorem dX3_feastLike_59 : decode cX3_feastLike 59 = .ok (.iload_n 2, 1) := dz_28 (kBcX3_feastLike_1 59 rfl rfl)
theorem dX3_feastLike_60 : decode cX3_feastLike 60 = .ok (.aaload, 1) := dz_50 (kBcX3_feastLike_1 60 rfl rfl)
theorem dX3_feastLike_61 : decode cX3_feastLike 61 = .ok (.iconst 1, 1) := dz_4 (kBcX3_feastLike_1 61 rfl rfl)
theorem dX3_feastLike_62 : decode cX3_feastLike 62 = .ok (.iaload, 1) := dz_46 (kBcX3_feastLike_1 62 rfl rfl)
theorem dX3_feastLike_63 : decode cX3_feastLike 63 = .ok (.invokevirtual 159, 3) := dz_182 (kBcX3_feastLike_1 63 rfl rfl) (kBcX3_feastLike_2 64 rfl rfl) (kBcX3_feastLike_2 65 rfl rfl) rfl
theorem dX3_feastLike_66 : decode cX3_feastLike 66 = .ok (.pop, 1) := dz_87 (kBcX3_feastLike_2 66 rfl rfl)
theorem dX3_feastLike_67 : decode cX3_feastLike 67 = .ok (.iload_n 3, 1) := dz_29 (kBcX3_feastLike_2 67 rfl rfl)
theorem dX3_feastLike_68 : decode cX3_feastLike 68 = .ok (.invokestatic 78, 3) := dz_184 (kBcX3_feastLike_2 68 rfl rfl) (kBcX3_feastLike_2 69 rfl rfl) (kBcX3_feastLike_2 70 rfl rfl) rfl
theorem dX3_feastLike_71 : decode cX3_feastLike 71 = .ok (.ireturn, 1) := dz_172 (kBcX3_feastLike_2 71 rfl rfl)
def kCcX3_putDay_0 : List Nat := [42, 180, 0, 21, 27, 6, 188, 10, 89, 3, 28, 79, 89, 4, 29, 79, 89, 5, 21, 4, 79, 83, 177]
theorem kRcX3_putDay_eq : cX3_putDay.data.toList.map UInt8.toNat = kCcX3_putDay_0 := by decide +kernel
theorem dX3_putDay_0 : decode cX3_putDay 0 = .ok (.aload_n 0, 1) := dz_42 (kin0 (p := 0) kRcX3_putDay_eq rfl)
theorem dX3_putDay_1 : decode cX3_putDay 1 = .ok (.getfield 21, 3) := dz_180 (kin0 (p := 1) kRcX3_putDay_eq rfl) (kin0 (p := 2) kRcX3_putDay_eq rfl) (kin0 (p := 3) kRcX3_putDay_eq rfl) rfl
theorem dX3_putDay_4 : decode cX3_putDay 4 = .ok (.iload_n 1, 1) := dz_27 (kin0 (p := 4) kRcX3_putDay_eq rfl)
theorem dX3_putDay_5 : decode cX3_putDay 5 = .ok (.iconst 3, 1) := dz_6 (kin0 (p := 5) kRcX3_putDay_eq rfl)
theorem dX3_putDay_6 : decode cX3_putDay 6 = .ok (.newarray .int, 2) := by decide +kernel
theorem dX3_putDay_8 : decode cX3_putDay 8 = .ok (.dup, 1) := dz_89 (kin0 (p := 8) kRcX3_putDay_eq rfl)
theorem dX3_putDay_9 : decode cX3_putDay 9 = .ok (.iconst 0, 1) := dz_3 (kin0 (p := 9) kRcX3_putDay_eq rfl)
theorem dX3_putDay_10 : decode cX3_putDay 10 = .ok (.iload_n 2, 1) := dz_28 (kin0 (p := 10) kRcX3_putDay_eq rfl)
theorem dX3_putDay_11 : decode cX3_putDay 11 = .ok (.iastore, 1) := dz_79 (kin0 (p := 11) kRcX3_putDay_eq rfl)
theorem dX3_putDay_12 : decode cX3_putDay 12 = .ok (.dup, 1) := dz_89 (kin0 (p := 12) kRcX3_putDay_eq rfl)
theorem dX3_putDay_13 : decode cX3_putDay 13 = .ok (.iconst 1, 1) := dz_4 (kin0 (p := 13) kRcX3_putDay_eq rfl)
theorem dX3_putDay_14 : decode cX3_putDay 14 = .ok (.iload_n 3, 1) := dz_29 (kin0 (p := 14) kRcX3_putDay_eq rfl)
theorem dX3_putDay_15 : decode cX3_putDay 15 = .ok (.iastore, 1) := dz_79 (kin0 (p := 15) kRcX3_putDay_eq rfl)
theorem dX3_putDay_16 : decode cX3_putDay 16 = .ok (.dup, 1) := dz_89 (kin0 (p := 16) kRcX3_putDay_eq rfl)
theorem dX3_putDay_17 : decode cX3_putDay 17 = .ok (.iconst 2, 1) := dz_5 (kin0 (p := 17) kRcX3_putDay_eq rfl)
theorem dX3_putDay_18 : decode cX3_putDay 18 = .ok (.iload 4, 2) := dz_21 (kin0 (p := 18) kRcX3_putDay_eq rfl) (kin0 (p := 19) kRcX3_putDay_eq rfl)
theorem dX3_putDay_20 : decode cX3_putDay 20 = .ok (.iastore, 1) := dz_79 (kin0 (p := 20) kRcX3_putDay_eq rfl)
theorem dX3_putDay_21 : decode cX3_putDay 21 = .ok (.aastore, 1) := dz_83 (kin0 (p := 21) kRcX3_putDay_eq rfl)
theorem dX3_putDay_22 : decode cX3_putDay 22 = .ok (.return_, 1) := dz_177 (kin0 (p := 22) kRcX3_putDay_eq rfl)
def kCcX3_dayAt_0 : List Nat := [42, 27, 184, 0, 96, 154, 0, 10, 28, 184, 0, 96, 153, 0, 7, 4, 167, 0, 4, 3, 29, 133, 10, 20, 0, 157, 184, 0, 30, 154, 0, 7]
def kCcX3_dayAt_1 : List Nat := [4, 167, 0, 4, 3, 182, 0, 103, 153, 0, 5, 3, 172, 29, 42, 28, 182, 0, 86, 164, 0, 6, 16, 247, 172, 42, 27, 42, 180, 0, 9, 28]
def kCcX3_dayAt_2 : List Nat := [50, 3, 46, 42, 180, 0, 9, 28, 50, 4, 46, 29, 182, 0, 173, 42, 180, 0, 21, 27, 50, 184, 0, 177, 172]
def kRcX3_dayAt_3 : List Nat := []
def kRcX3_dayAt_2 : List Nat := kCcX3_dayAt_2 ++ kRcX3_dayAt_3
def kRcX3_dayAt_1 : List Nat := kCcX3_dayAt_1 ++ kRcX3_dayAt_2
def kRcX3_dayAt_0 : List Nat := kCcX3_dayAt_0 ++ kRcX3_dayAt_1
theorem kRcX3_dayAt_eq : cX3_dayAt.data.toList.map UInt8.toNat = kRcX3_dayAt_0 := by decide +kernel
theorem katcX3_dayAt_0 (i : Nat) : (cX3_dayAt.data.toList.map UInt8.toNat)[0 + i]? = kRcX3_dayAt_0[i]? := by rw [kRcX3_dayAt_eq, Nat.zero_add]
theorem katcX3_dayAt_1 : ∀ i : Nat, (cX3_dayAt.data.toList.map UInt8.toNat)[32 + i]? = kRcX3_dayAt_1[i]? := kstep katcX3_dayAt_0 (C := kCcX3_dayAt_0) rfl rfl
theorem katcX3_dayAt_2 : ∀ i : Nat, (cX3_dayAt.data.toList.map UInt8.toNat)[64 + i]? = kRcX3_dayAt_2[i]? := kstep katcX3_dayAt_1 (C := kCcX3_dayAt_1) rfl rfl
theorem kBcX3_dayAt_0 {b : Nat} (p : Nat) (hp : Nat.ble 0 p = true) (h : kCcX3_dayAt_0[p - 0]? = some b) : kb cX3_dayAt p b := kin katcX3_dayAt_0 rfl hp h
theorem kBcX3_dayAt_1 {b : Nat} (p : Nat) (hp : Nat.ble 32 p = true) (h : kCcX3_dayAt_1[p - 32]? = some b) : kb cX3_dayAt p b := kin katcX3_dayAt_1 rfl hp h
theorem kBcX3_dayAt_2 {b : Nat} (p : Nat) (hp : Nat.ble 64 p = true) (h : kCcX3_dayAt_2[p - 64]? = some b) : kb cX3_dayAt p b := kin katcX3_dayAt_2 rfl hp h
theorem dX3_dayAt_0 : decode cX3_dayAt 0 = .ok (.aload_n 0, 1) := dz_42 (kBcX3_dayAt_0 0 rfl rfl)
theorem dX3_dayAt_1 : decode cX3_dayAt 1 = .ok (.iload_n 1, 1) := dz_27 (kBcX3_dayAt_0 1 rfl rfl)
theorem dX3_dayAt_2 : decode cX3_dayAt 2 = .ok (.invokestatic 96, 3) := dz_184 (kBcX3_dayAt_0 2 rfl rfl) (kBcX3_dayAt_0 3 rfl rfl) (kBcX3_dayAt_0 4 rfl rfl) rfl
theorem dX3_dayAt_5 : decode cX3_dayAt 5 = .ok (.ifCond .ne 10, 3) := dz_154 (kBcX3_dayAt_0 5 rfl rfl) (kBcX3_dayAt_0 6 rfl rfl) (kBcX3_dayAt_0 7 rfl rfl) rfl
theorem dX3_dayAt_8 : decode cX3_dayAt 8 = .ok (.iload_n 2, 1) := dz_28 (kBcX3_dayAt_0 8 rfl rfl)
theorem dX3_dayAt_9 : decode cX3_dayAt 9 = .ok (.invokestatic 96, 3) := dz_184 (kBcX3_dayAt_0 9 rfl rfl) (kBcX3_dayAt_0 10 rfl rfl) (kBcX3_dayAt_0 11 rfl rfl) rfl
theorem dX3_dayAt_12 : decode cX3_dayAt 12 = .ok (.ifCond .eq 7, 3) := dz_153 (kBcX3_dayAt_0 12 rfl rfl) (kBcX3_dayAt_0 13 rfl rfl) (kBcX3_dayAt_0 14 rfl rfl) rfl
theorem dX3_dayAt_15 : decode cX3_dayAt 15 = .ok (.iconst 1, 1) := dz_4 (kBcX3_dayAt_0 15 rfl rfl)
theorem dX3_dayAt_16 : decode cX3_dayAt 16 = .ok (.goto 4, 3) := dz_167 (kBcX3_dayAt_0 16 rfl rfl) (kBcX3_dayAt_0 17 rfl rfl) (kBcX3_dayAt_0 18 rfl rfl) rfl
theorem dX3_dayAt_19 : decode cX3_dayAt 19 = .ok (.iconst 0, 1) := dz_3 (kBcX3_dayAt_0 19 rfl rfl)
theorem dX3_dayAt_20 : decode cX3_dayAt 20 = .ok (.iload_n 3, 1) := dz_29 (kBcX3_dayAt_0 20 rfl rfl)
theorem dX3_dayAt_21 : decode cX3_dayAt 21 = .ok (.i2l, 1) := dz_133 (kBcX3_dayAt_0 21 rfl rfl)
theorem dX3_dayAt_22 : decode cX3_dayAt 22 = .ok (.lconst 1, 1) := dz_10 (kBcX3_dayAt_0 22 rfl rfl)
theorem dX3_dayAt_23 : decode cX3_dayAt 23 = .ok (.ldc2_w 157, 3) := dz_20 (kBcX3_dayAt_0 23 rfl rfl) (kBcX3_dayAt_0 24 rfl rfl) (kBcX3_dayAt_0 25 rfl rfl) rfl
theorem dX3_dayAt_26 : decode cX3_dayAt 26 = .ok (.invokestatic 30, 3) := dz_184 (kBcX3_dayAt_0 26 rfl rfl) (kBcX3_dayAt_0 27 rfl rfl) (kBcX3_dayAt_0 28 rfl rfl) rfl
theorem dX3_dayAt_29 : decode cX3_dayAt 29 = .ok (.ifCond .ne 7, 3) := dz_154 (kBcX3_dayAt_0 29 rfl rfl) (kBcX3_dayAt_0 30 rfl rfl) (kBcX3_dayAt_0 31 rfl rfl) rfl
theorem dX3_dayAt_32 : decode cX3_dayAt 32 = .ok (.iconst 1, 1) := dz_4 (kBcX3_dayAt_1 32 rfl rfl)
theorem dX3_dayAt_33 : decode cX3_dayAt 33 = .ok (.goto 4, 3) := dz_167 (kBcX3_dayAt_1 33 rfl rfl) (kBcX3_dayAt_1 34 rfl rfl) (kBcX3_dayAt_1 35 rfl rfl) rfl
theorem dX3_dayAt_36 : decode cX3_dayAt 36 = .ok (.iconst 0, 1) := dz_3 (kBcX3_dayAt_1 36 rfl rfl)
theorem dX3_dayAt_37 : decode cX3_dayAt 37 = .ok (.invokevirtual 103, 3) := dz_182 (kBcX3_dayAt_1 37 rfl rfl) (kBcX3_dayAt_1 38 rfl rfl) (kBcX3_dayAt_1 39 rfl rfl) rfl
theorem dX3_dayAt_40 : decode cX3_dayAt 40 = .ok (.ifCond .eq 5, 3) := dz_153 (kBcX3_dayAt_1 40 rfl rfl) (kBcX3_dayAt_1 41 rfl rfl) (kBcX3_dayAt_1 42 rfl rfl) rfl
theorem dX3_dayAt_43 : decode cX3_dayAt 43 = .ok (.iconst 0, 1) := dz_3 (kBcX3_dayAt_1 43 rfl rfl)
theorem dX3_dayAt_44 : decode cX3_dayAt 44 = .ok (.ireturn, 1) := dz_172 (kBcX3_dayAt_1 44 rfl rfl)
theorem dX3_dayAt_45 : decode cX3_dayAt 45 = .ok (.iload_n 3, 1) := dz_29 (kBcX3_dayAt_1 45 rfl rfl)
theorem dX3_dayAt_46 : decode cX3_dayAt 46 = .ok (.aload_n 0, 1) := dz_42 (kBcX3_dayAt_1 46 rfl rfl)
theorem dX3_dayAt_47 : decode cX3_dayAt 47 = .ok (.iload_n 2, 1) := dz_28 (kBcX3_dayAt_1 47 rfl rfl)
theorem dX3_dayAt_48 : decode cX3_dayAt 48 = .ok (.invokevirtual 86, 3) := dz_182 (kBcX3_dayAt_1 48 rfl rfl) (kBcX3_dayAt_1 49 rfl rfl) (kBcX3_dayAt_1 50 rfl rfl) rfl
theorem dX3_dayAt_51 : decode cX3_dayAt 51 = .ok (.if_icmp .le 6, 3) := dz_164 (kBcX3_dayAt_1 51 rfl rfl) (kBcX3_dayAt_1 52 rfl rfl) (kBcX3_dayAt_1 53 rfl rfl) rfl
theorem dX3_dayAt_54 : decode cX3_dayAt 54 = .ok (.bipush (-9), 2) := dz_16 (kBcX3_dayAt_1 54 rfl rfl) (kBcX3_dayAt_1 55 rfl rfl) rfl
theorem dX3_dayAt_56 : decode cX3_dayAt 56 = .ok (.ireturn, 1) := dz_172 (kBcX3_dayAt_1 56 rfl rfl)
theorem dX3_dayAt_57 : decode cX3_dayAt 57 = .ok (.aload_n 0, 1) := dz_42 (kBcX3_dayAt_1 57 rfl rfl)
theorem dX3_dayAt_58 : decode cX3_dayAt 58 = .ok (.iload_n 1, 1) := dz_27 (kBcX3_dayAt_1 58 rfl rfl)
theorem dX3_dayAt_59 : decode cX3_dayAt 59 = .ok (.aload_n 0, 1) := dz_42 (kBcX3_dayAt_1 59 rfl rfl)
theorem dX3_dayAt_60 : decode cX3_dayAt 60 = .ok (.getfield 9, 3) := dz_180 (kBcX3_dayAt_1 60 rfl rfl) (kBcX3_dayAt_1 61 rfl rfl) (kBcX3_dayAt_1 62 rfl rfl) rfl
theorem dX3_dayAt_63 : decode cX3_dayAt 63 = .ok (.iload_n 2, 1) := dz_28 (kBcX3_dayAt_1 63 rfl rfl)
theorem dX3_dayAt_64 : decode cX3_dayAt 64 = .ok (.aaload, 1) := dz_50 (kBcX3_dayAt_2 64 rfl rfl)
theorem dX3_dayAt_65 : decode cX3_dayAt 65 = .ok (.iconst 0, 1) := dz_3 (kBcX3_dayAt_2 65 rfl rfl)
theorem dX3_dayAt_66 : decode cX3_dayAt 66 = .ok (.iaload, 1) := dz_46 (kBcX3_dayAt_2 66 rfl rfl)
theorem dX3_dayAt_67 : decode cX3_dayAt 67 = .ok (.aload_n 0, 1) := dz_42 (kBcX3_dayAt_2 67 rfl rfl)
theorem dX3_dayAt_68 : decode cX3_dayAt 68 = .ok (.getfield 9, 3) := dz_180 (kBcX3_dayAt_2 68 rfl rfl) (kBcX3_dayAt_2 69 rfl rfl) (kBcX3_dayAt_2 70 rfl rfl) rfl
theorem dX3_dayAt_71 : decode cX3_dayAt 71 = .ok (.iload_n 2, 1) := dz_28 (kBcX3_dayAt_2 71 rfl rfl)
theorem dX3_dayAt_72 : decode cX3_dayAt 72 = .ok (.aaload, 1) := dz_50 (kBcX3_dayAt_2 72 rfl rfl)
theorem dX3_dayAt_73 : decode cX3_dayAt 73 = .ok (.iconst 1, 1) := dz_4 (kBcX3_dayAt_2 73 rfl rfl)
theorem dX3_dayAt_74 : decode cX3_dayAt 74 = .ok (.iaload, 1) := dz_46 (kBcX3_dayAt_2 74 rfl rfl)
theorem dX3_dayAt_75 : decode cX3_dayAt 75 = .ok (.iload_n 3, 1) := dz_29 (kBcX3_dayAt_2 75 rfl rfl)
theorem dX3_dayAt_76 : decode cX3_dayAt 76 = .ok (.invokevirtual 173, 3) := dz_182 (kBcX3_dayAt_2 76 rfl rfl) (kBcX3_dayAt_2 77 rfl rfl) (kBcX3_dayAt_2 78 rfl rfl) rfl
theorem dX3_dayAt_79 : decode cX3_dayAt 79 = .ok (.aload_n 0, 1) := dz_42 (kBcX3_dayAt_2 79 rfl rfl)
theorem dX3_dayAt_80 : decode cX3_dayAt 80 = .ok (.getfield 21, 3) := dz_180 (kBcX3_dayAt_2 80 rfl rfl) (kBcX3_dayAt_2 81 rfl rfl) (kBcX3_dayAt_2 82 rfl rfl) rfl
theorem dX3_dayAt_83 : decode cX3_dayAt 83 = .ok (.iload_n 1, 1) := dz_27 (kBcX3_dayAt_2 83 rfl rfl)
theorem dX3_dayAt_84 : decode cX3_dayAt 84 = .ok (.aaload, 1) := dz_50 (kBcX3_dayAt_2 84 rfl rfl)
theorem dX3_dayAt_85 : decode cX3_dayAt 85 = .ok (.invokestatic 177, 3) := dz_184 (kBcX3_dayAt_2 85 rfl rfl) (kBcX3_dayAt_2 86 rfl rfl) (kBcX3_dayAt_2 87 rfl rfl) rfl
theorem dX3_dayAt_88 : decode cX3_dayAt 88 = .ok (.ireturn, 1) := dz_172 (kBcX3_dayAt_2 88 rfl rfl)
def kCcX3_dayEnd_0 : List Nat := [42, 27, 184, 0, 96, 154, 0, 10, 28, 184, 0, 96, 153, 0, 7, 4, 167, 0, 4, 3, 3, 182, 0, 103, 153, 0, 5, 3, 172, 42, 27, 42]
def kCcX3_dayEnd_1 : List Nat := [180, 0, 9, 28, 50, 3, 46, 42, 180, 0, 9, 28, 50, 4, 46, 42, 28, 182, 0, 86, 182, 0, 173, 42, 28, 182, 0, 86, 172]
def kRcX3_dayEnd_2 : List Nat := []
def kRcX3_dayEnd_1 : List Nat := kCcX3_dayEnd_1 ++ kRcX3_dayEnd_2
def kRcX3_dayEnd_0 : List Nat := kCcX3_dayEnd_0 ++ kRcX3_dayEnd_1
theorem kRcX3_dayEnd_eq : cX3_dayEnd.data.toList.map UInt8.toNat = kRcX3_dayEnd_0 := by decide +kernel
theorem katcX3_dayEnd_0 (i : Nat) : (cX3_dayEnd.data.toList.map UInt8.toNat)[0 + i]? = kRcX3_dayEnd_0[i]? := by rw [kRcX3_dayEnd_eq, Nat.zero_add]
theorem katcX3_dayEnd_1 : ∀ i : Nat, (cX3_dayEnd.data.toList.map UInt8.toNat)[32 + i]? = kRcX3_dayEnd_1[i]? := kstep katcX3_dayEnd_0 (C := kCcX3_dayEnd_0) rfl rfl
theorem kBcX3_dayEnd_0 {b : Nat} (p : Nat) (hp : Nat.ble 0 p = true) (h : kCcX3_dayEnd_0[p - 0]? = some b) : kb cX3_dayEnd p b := kin katcX3_dayEnd_0 rfl hp h
theorem kBcX3_dayEnd_1 {b : Nat} (p : Nat) (hp : Nat.ble 32 p = true) (h : kCcX3_dayEnd_1[p - 32]? = some b) : kb cX3_dayEnd p b := kin katcX3_dayEnd_1 rfl hp h
theorem dX3_dayEnd_0 : decode cX3_dayEnd 0 = .ok (.aload_n 0, 1) := dz_42 (kBcX3_dayEnd_0 0 rfl rfl)
theorem dX3_dayEnd_1 : decode cX3_dayEnd 1 = .ok (.iload_n 1, 1) := dz_27 (kBcX3_dayEnd_0 1 rfl rfl)
theorem dX3_dayEnd_2 : decode cX3_dayEnd 2 = .ok (.invokestatic 96, 3) := dz_184 (kBcX3_dayEnd_0 2 rfl rfl) (kBcX3_dayEnd_0 3 rfl rfl) (kBcX3_dayEnd_0 4 rfl rfl) rfl
theorem dX3_dayEnd_5 : decode cX3_dayEnd 5 = .ok (.ifCond .ne 10, 3) := dz_154 (kBcX3_dayEnd_0 5 rfl rfl) (kBcX3_dayEnd_0 6 rfl rfl) (kBcX3_dayEnd_0 7 rfl rfl) rfl
theorem dX3_dayEnd_8 : decode cX3_dayEnd 8 = .ok (.iload_n 2, 1) := dz_28 (kBcX3_dayEnd_0 8 rfl rfl)
theorem dX3_dayEnd_9 : decode cX3_dayEnd 9 = .ok (.invokestatic 96, 3) := dz_184 (kBcX3_dayEnd_0 9 rfl rfl) (kBcX3_dayEnd_0 10 rfl rfl) (kBcX3_dayEnd_0 11 rfl rfl) rfl
theorem dX3_dayEnd_12 : decode cX3_dayEnd 12 = .ok (.ifCond .eq 7, 3) := dz_153 (kBcX3_dayEnd_0 12 rfl rfl) (kBcX3_dayEnd_0 13 rfl rfl) (kBcX3_dayEnd_0 14 rfl rfl) rfl
theorem dX3_dayEnd_15 : decode cX3_dayEnd 15 = .ok (.iconst 1, 1) := dz_4 (kBcX3_dayEnd_0 15 rfl rfl)
theorem dX3_dayEnd_16 : decode cX3_dayEnd 16 = .ok (.goto 4, 3) := dz_167 (kBcX3_dayEnd_0 16 rfl rfl) (kBcX3_dayEnd_0 17 rfl rfl) (kBcX3_dayEnd_0 18 rfl rfl) rfl
theorem dX3_dayEnd_19 : decode cX3_dayEnd 19 = .ok (.iconst 0, 1) := dz_3 (kBcX3_dayEnd_0 19 rfl rfl)
theorem dX3_dayEnd_20 : decode cX3_dayEnd 20 = .ok (.iconst 0, 1) := dz_3 (kBcX3_dayEnd_0 20 rfl rfl)
theorem dX3_dayEnd_21 : decode cX3_dayEnd 21 = .ok (.invokevirtual 103, 3) := dz_182 (kBcX3_dayEnd_0 21 rfl rfl) (kBcX3_dayEnd_0 22 rfl rfl) (kBcX3_dayEnd_0 23 rfl rfl) rfl
theorem dX3_dayEnd_24 : decode cX3_dayEnd 24 = .ok (.ifCond .eq 5, 3) := dz_153 (kBcX3_dayEnd_0 24 rfl rfl) (kBcX3_dayEnd_0 25 rfl rfl) (kBcX3_dayEnd_0 26 rfl rfl) rfl
theorem dX3_dayEnd_27 : decode cX3_dayEnd 27 = .ok (.iconst 0, 1) := dz_3 (kBcX3_dayEnd_0 27 rfl rfl)
theorem dX3_dayEnd_28 : decode cX3_dayEnd 28 = .ok (.ireturn, 1) := dz_172 (kBcX3_dayEnd_0 28 rfl rfl)
theorem dX3_dayEnd_29 : decode cX3_dayEnd 29 = .ok (.aload_n 0, 1) := dz_42 (kBcX3_dayEnd_0 29 rfl rfl)
theorem dX3_dayEnd_30 : decode cX3_dayEnd 30 = .ok (.iload_n 1, 1) := dz_27 (kBcX3_dayEnd_0 30 rfl rfl)
theorem dX3_dayEnd_31 : decode cX3_dayEnd 31 = .ok (.aload_n 0, 1) := dz_42 (kBcX3_dayEnd_0 31 rfl rfl)
theorem dX3_dayEnd_32 : decode cX3_dayEnd 32 = .ok (.getfield 9, 3) := dz_180 (kBcX3_dayEnd_1 32 rfl rfl) (kBcX3_dayEnd_1 33 rfl rfl) (kBcX3_dayEnd_1 34 rfl rfl) rfl
theorem dX3_dayEnd_35 : decode cX3_dayEnd 35 = .ok (.iload_n 2, 1) := dz_28 (kBcX3_dayEnd_1 35 rfl rfl)
theorem dX3_dayEnd_36 : decode cX3_dayEnd 36 = .ok (.aaload, 1) := dz_50 (kBcX3_dayEnd_1 36 rfl rfl)
theorem dX3_dayEnd_37 : decode cX3_dayEnd 37 = .ok (.iconst 0, 1) := dz_3 (kBcX3_dayEnd_1 37 rfl rfl)
theorem dX3_dayEnd_38 : decode cX3_dayEnd 38 = .ok (.iaload, 1) := dz_46 (kBcX3_dayEnd_1 38 rfl rfl)
theorem dX3_dayEnd_39 : decode cX3_dayEnd 39 = .ok (.aload_n 0, 1) := dz_42 (kBcX3_dayEnd_1 39 rfl rfl)
theorem dX3_dayEnd_40 : decode cX3_dayEnd 40 = .ok (.getfield 9, 3) := dz_180 (kBcX3_dayEnd_1 40 rfl rfl) (kBcX3_dayEnd_1 41 rfl rfl) (kBcX3_dayEnd_1 42 rfl rfl) rfl
theorem dX3_dayEnd_43 : decode cX3_dayEnd 43 = .ok (.iload_n 2, 1) := dz_28 (kBcX3_dayEnd_1 43 rfl rfl)
theorem dX3_dayEnd_44 : decode cX3_dayEnd 44 = .ok (.aaload, 1) := dz_50 (kBcX3_dayEnd_1 44 rfl rfl)
theorem dX3_dayEnd_45 : decode cX3_dayEnd 45 = .ok (.iconst 1, 1) := dz_4 (kBcX3_dayEnd_1 45 rfl rfl)
theorem dX3_dayEnd_46 : decode cX3_dayEnd 46 = .ok (.iaload, 1) := dz_46 (kBcX3_dayEnd_1 46 rfl rfl)
theorem dX3_dayEnd_47 : decode cX3_dayEnd 47 = .ok (.aload_n 0, 1) := dz_42 (kBcX3_dayEnd_1 47 rfl rfl)
theorem dX3_dayEnd_48 : decode cX3_dayEnd 48 = .ok (.iload_n 2, 1) := dz_28 (kBcX3_dayEnd_1 48 rfl rfl)
theorem dX3_dayEnd_49 : decode cX3_dayEnd 49 = .ok (.invokevirtual 86, 3) := dz_182 (kBcX3_dayEnd_1 49 rfl rfl) (kBcX3_dayEnd_1 50 rfl rfl) (kBcX3_dayEnd_1 51 rfl rfl) rfl
theorem dX3_dayEnd_52 : decode cX3_dayEnd 52 = .ok (.invokevirtual 173, 3) := dz_182 (kBcX3_dayEnd_1 52 rfl rfl) (kBcX3_dayEnd_1 53 rfl rfl) (kBcX3_dayEnd_1 54 rfl rfl) rfl
theorem dX3_dayEnd_55 : decode cX3_dayEnd 55 = .ok (.aload_n 0, 1) := dz_42 (kBcX3_dayEnd_1 55 rfl rfl)
theorem dX3_dayEnd_56 : decode cX3_dayEnd 56 = .ok (.iload_n 2, 1) := dz_28 (kBcX3_dayEnd_1 56 rfl rfl)
theorem dX3_dayEnd_57 : decode cX3_dayEnd 57 = .ok (.invokevirtual 86, 3) := dz_182 (kBcX3_dayEnd_1 57 rfl rfl) (kBcX3_dayEnd_1 58 rfl rfl) (kBcX3_dayEnd_1 59 rfl rfl) rfl
theorem dX3_dayEnd_60 : decode cX3_dayEnd 60 = .ok (.ireturn, 1) := dz_172 (kBcX3_dayEnd_1 60 rfl rfl)
def kCcX3_dayInYear_0 : List Nat := [42, 27, 184, 0, 96, 154, 0, 10, 28, 184, 0, 96, 153, 0, 7, 4, 167, 0, 4, 3, 29, 133, 10, 20, 0, 181, 184, 0, 30, 154, 0, 7]
def kCcX3_dayInYear_1 : List Nat := [4, 167, 0, 4, 3, 182, 0, 103, 153, 0, 5, 3, 172, 29, 42, 180, 0, 15, 28, 46, 133, 184, 0, 148, 164, 0, 6, 16, 247, 172, 4, 54]
def kCcX3_dayInYear_2 : List Nat := [4, 29, 54, 5, 21, 5, 42, 180, 0, 15, 28, 46, 133, 21, 4, 184, 0, 55, 164, 0, 26, 21, 5, 42, 180, 0, 15, 28, 46, 133, 21, 4]
def kCcX3_dayInYear_3 : List Nat := [184, 0, 55, 100, 54, 5, 132, 4, 1, 167, 255, 219, 42, 27, 42, 180, 0, 15, 28, 46, 21, 4, 21, 5, 182, 0, 173, 21, 4, 172]
def kRcX3_dayInYear_4 : List Nat := []
def kRcX3_dayInYear_3 : List Nat := kCcX3_dayInYear_3 ++ kRcX3_dayInYear_4
def kRcX3_dayInYear_2 : List Nat := kCcX3_dayInYear_2 ++ kRcX3_dayInYear_3
def kRcX3_dayInYear_1 : List Nat := kCcX3_dayInYear_1 ++ kRcX3_dayInYear_2
def kRcX3_dayInYear_0 : List Nat := kCcX3_dayInYear_0 ++ kRcX3_dayInYear_1
theorem kRcX3_dayInYear_eq : cX3_dayInYear.data.toList.map UInt8.toNat = kRcX3_dayInYear_0 := by decide +kernel
theorem katcX3_dayInYear_0 (i : Nat) : (cX3_dayInYear.data.toList.map UInt8.toNat)[0 + i]? = kRcX3_dayInYear_0[i]? := by rw [kRcX3_dayInYear_eq, Nat.zero_add]
theorem katcX3_dayInYear_1 : ∀ i : Nat, (cX3_dayInYear.data.toList.map UInt8.toNat)[32 + i]? = kRcX3_dayInYear_1[i]? := kstep katcX3_dayInYear_0 (C := kCcX3_dayInYear_0) rfl rfl
theorem katcX3_dayInYear_2 : ∀ i : Nat, (cX3_dayInYear.data.toList.map UInt8.toNat)[64 + i]? = kRcX3_dayInYear_2[i]? := kstep katcX3_dayInYear_1 (C := kCcX3_dayInYear_1) rfl rfl
theorem katcX3_dayInYear_3 : ∀ i : Nat, (cX3_dayInYear.data.toList.map UInt8.toNat)[96 + i]? = kRcX3_dayInYear_3[i]? := kstep katcX3_dayInYear_2 (C := kCcX3_dayInYear_2) rfl rfl
theorem kBcX3_dayInYear_0 {b : Nat} (p : Nat) (hp : Nat.ble 0 p = true) (h : kCcX3_dayInYear_0[p - 0]? = some b) : kb cX3_dayInYear p b := kin katcX3_dayInYear_0 rfl hp h
theorem kBcX3_dayInYear_1 {b : Nat} (p : Nat) (hp : Nat.ble 32 p = true) (h : kCcX3_dayInYear_1[p - 32]? = some b) : kb cX3_dayInYear p b := kin katcX3_dayInYear_1 rfl hp h
theorem kBcX3_dayInYear_2 {b : Nat} (p : Nat) (hp : Nat.ble 64 p = true) (h : kCcX3_dayInYear_2[p - 64]? = some b) : kb cX3_dayInYear p b := kin katcX3_dayInYear_2 rfl hp h
theorem kBcX3_dayInYear_3 {b : Nat} (p : Nat) (hp : Nat.ble 96 p = true) (h : kCcX3_dayInYear_3[p - 96]? = some b) : kb cX3_dayInYear p b := kin katcX3_dayInYear_3 rfl hp h
theorem dX3_dayInYear_0 : decode cX3_dayInYear 0 = .ok (.aload_n 0, 1) := dz_42 (kBcX3_dayInYear_0 0 rfl rfl)
theorem dX3_dayInYear_1 : decode cX3_dayInYear 1 = .ok (.iload_n 1, 1) := dz_27 (kBcX3_dayInYear_0 1 rfl rfl)
theorem dX3_dayInYear_2 : decode cX3_dayInYear 2 = .ok (.invokestatic 96, 3) := dz_184 (kBcX3_dayInYear_0 2 rfl rfl) (kBcX3_dayInYear_0 3 rfl rfl) (kBcX3_dayInYear_0 4 rfl rfl) rfl
theorem dX3_dayInYear_5 : decode cX3_dayInYear 5 = .ok (.ifCond .ne 10, 3) := dz_154 (kBcX3_dayInYear_0 5 rfl rfl) (kBcX3_dayInYear_0 6 rfl rfl) (kBcX3_dayInYear_0 7 rfl rfl) rfl
theorem dX3_dayInYear_8 : decode cX3_dayInYear 8 = .ok (.iload_n 2, 1) := dz_28 (kBcX3_dayInYear_0 8 rfl rfl)
theorem dX3_dayInYear_9 : decode cX3_dayInYear 9 = .ok (.invokestatic 96, 3) := dz_184 (kBcX3_dayInYear_0 9 rfl rfl) (kBcX3_dayInYear_0 10 rfl rfl) (kBcX3_dayInYear_0 11 rfl rfl) rfl
theorem dX3_dayInYear_12 : decode cX3_dayInYear 12 = .ok (.ifCond .eq 7, 3) := dz_153 (kBcX3_dayInYear_0 12 rfl rfl) (kBcX3_dayInYear_0 13 rfl rfl) (kBcX3_dayInYear_0 14 rfl rfl) rfl
theorem dX3_dayInYear_15 : decode cX3_dayInYear 15 = .ok (.iconst 1, 1) := dz_4 (kBcX3_dayInYear_0 15 rfl rfl)
theorem dX3_dayInYear_16 : decode cX3_dayInYear 16 = .ok (.goto 4, 3) := dz_167 (kBcX3_dayInYear_0 16 rfl rfl) (kBcX3_dayInYear_0 17 rfl rfl) (kBcX3_dayInYear_0 18 rfl rfl) rfl
theorem dX3_dayInYear_19 : decode cX3_dayInYear 19 = .ok (.iconst 0, 1) := dz_3 (kBcX3_dayInYear_0 19 rfl rfl)
theorem dX3_dayInYear_20 : decode cX3_dayInYear 20 = .ok (.iload_n 3, 1) := dz_29 (kBcX3_dayInYear_0 20 rfl rfl)
theorem dX3_dayInYear_21 : decode cX3_dayInYear 21 = .ok (.i2l, 1) := dz_133 (kBcX3_dayInYear_0 21 rfl rfl)
theorem dX3_dayInYear_22 : decode cX3_dayInYear 22 = .ok (.lconst 1, 1) := dz_10 (kBcX3_dayInYear_0 22 rfl rfl)
theorem dX3_dayInYear_23 : decode cX3_dayInYear 23 = .ok (.ldc2_w 181, 3) := dz_20 (kBcX3_dayInYear_0 23 rfl rfl) (kBcX3_dayInYear_0 24 rfl rfl) (kBcX3_dayInYear_0 25 rfl rfl) rfl
theorem dX3_dayInYear_26 : decode cX3_dayInYear 26 = .ok (.invokestatic 30, 3) := dz_184 (kBcX3_dayInYear_0 26 rfl rfl) (kBcX3_dayInYear_0 27 rfl rfl) (kBcX3_dayInYear_0 28 rfl rfl) rfl
theorem dX3_dayInYear_29 : decode cX3_dayInYear 29 = .ok (.ifCond .ne 7, 3) := dz_154 (kBcX3_dayInYear_0 29 rfl rfl) (kBcX3_dayInYear_0 30 rfl rfl) (kBcX3_dayInYear_0 31 rfl rfl) rfl
theorem dX3_dayInYear_32 : decode cX3_dayInYear 32 = .ok (.iconst 1, 1) := dz_4 (kBcX3_dayInYear_1 32 rfl rfl)
theorem dX3_dayInYear_33 : decode cX3_dayInYear 33 = .ok (.goto 4, 3) := dz_167 (kBcX3_dayInYear_1 33 rfl rfl) (kBcX3_dayInYear_1 34 rfl rfl) (kBcX3_dayInYear_1 35 rfl rfl) rfl
theorem dX3_dayInYear_36 : decode cX3_dayInYear 36 = .ok (.iconst 0, 1) := dz_3 (kBcX3_dayInYear_1 36 rfl rfl)
theorem dX3_dayInYear_37 : decode cX3_dayInYear 37 = .ok (.invokevirtual 103, 3) := dz_182 (kBcX3_dayInYear_1 37 rfl rfl) (kBcX3_dayInYear_1 38 rfl rfl) (kBcX3_dayInYear_1 39 rfl rfl) rfl
theorem dX3_dayInYear_40 : decode cX3_dayInYear 40 = .ok (.ifCond .eq 5, 3) := dz_153 (kBcX3_dayInYear_1 40 rfl rfl) (kBcX3_dayInYear_1 41 rfl rfl) (kBcX3_dayInYear_1 42 rfl rfl) rfl
theorem dX3_dayInYear_43 : decode cX3_dayInYear 43 = .ok (.iconst 0, 1) := dz_3 (kBcX3_dayInYear_1 43 rfl rfl)
theorem dX3_dayInYear_44 : decode cX3_dayInYear 44 = .ok (.ireturn, 1) := dz_172 (kBcX3_dayInYear_1 44 rfl rfl)
theorem dX3_dayInYear_45 : decode cX3_dayInYear 45 = .ok (.iload_n 3, 1) := dz_29 (kBcX3_dayInYear_1 45 rfl rfl)
theorem dX3_dayInYear_46 : decode cX3_dayInYear 46 = .ok (.aload_n 0, 1) := dz_42 (kBcX3_dayInYear_1 46 rfl rfl)
theorem dX3_dayInYear_47 : decode cX3_dayInYear 47 = .ok (.getfield 15, 3) := dz_180 (kBcX3_dayInYear_1 47 rfl rfl) (kBcX3_dayInYear_1 48 rfl rfl) (kBcX3_dayInYear_1 49 rfl rfl) rfl
theorem dX3_dayInYear_50 : decode cX3_dayInYear 50 = .ok (.iload_n 2, 1) := dz_28 (kBcX3_dayInYear_1 50 rfl rfl)
theorem dX3_dayInYear_51 : decode cX3_dayInYear 51 = .ok (.iaload, 1) := dz_46 (kBcX3_dayInYear_1 51 rfl rfl)
theorem dX3_dayInYear_52 : decode cX3_dayInYear 52 = .ok (.i2l, 1) := dz_133 (kBcX3_dayInYear_1 52 rfl rfl)
theorem dX3_dayInYear_53 : decode cX3_dayInYear 53 = .ok (.invokestatic 148, 3) := dz_184 (kBcX3_dayInYear_1 53 rfl rfl) (kBcX3_dayInYear_1 54 rfl rfl) (kBcX3_dayInYear_1 55 rfl rfl) rfl
theorem dX3_dayInYear_56 : decode cX3_dayInYear 56 = .ok (.if_icmp .le 6, 3) := dz_164 (kBcX3_dayInYear_1 56 rfl rfl) (kBcX3_dayInYear_1 57 rfl rfl) (kBcX3_dayInYear_1 58 rfl rfl) rfl
theorem dX3_dayInYear_59 : decode cX3_dayInYear 59 = .ok (.bipush (-9), 2) := dz_16 (kBcX3_dayInYear_1 59 rfl rfl) (kBcX3_dayInYear_1 60 rfl rfl) rfl
theorem dX3_dayInYear_61 : decode cX3_dayInYear 61 = .ok (.ireturn, 1) := dz_172 (kBcX3_dayInYear_1 61 rfl rfl)
theorem dX3_dayInYear_62 : decode cX3_dayInYear 62 = .ok (.iconst 1, 1) := dz_4 (kBcX3_dayInYear_1 62 rfl rfl)
theorem dX3_dayInYear_63 : decode cX3_dayInYear 63 = .ok (.istore 4, 2) := dz_54 (kBcX3_dayInYear_1 63 rfl rfl) (kBcX3_dayInYear_2 64 rfl rfl)
theorem dX3_dayInYear_65 : decode cX3_dayInYear 65 = .ok (.iload_n 3, 1) := dz_29 (kBcX3_dayInYear_2 65 rfl rfl)
theorem dX3_dayInYear_66 : decode cX3_dayInYear 66 = .ok (.istore 5, 2) := dz_54 (kBcX3_dayInYear_2 66 rfl rfl) (kBcX3_dayInYear_2 67 rfl rfl)
theorem dX3_dayInYear_68 : decode cX3_dayInYear 68 = .ok (.iload 5, 2) := dz_21 (kBcX3_dayInYear_2 68 rfl rfl) (kBcX3_dayInYear_2 69 rfl rfl)
theorem dX3_dayInYear_70 : decode cX3_dayInYear 70 = .ok (.aload_n 0, 1) := dz_42 (kBcX3_dayInYear_2 70 rfl rfl)
theorem dX3_dayInYear_71 : decode cX3_dayInYear 71 = .ok (.getfield 15, 3) := dz_180 (kBcX3_dayInYear_2 71 rfl rfl) (kBcX3_dayInYear_2 72 rfl rfl) (kBcX3_dayInYear_2 73 rfl rfl) rfl
theorem dX3_dayInYear_74 : decode cX3_dayInYear 74 = .ok (.iload_n 2, 1) := dz_28 (kBcX3_dayInYear_2 74 rfl rfl)
theorem dX3_dayInYear_75 : decode cX3_dayInYear 75 = .ok (.iaload, 1) := dz_46 (kBcX3_dayInYear_2 75 rfl rfl)
theorem dX3_dayInYear_76 : decode cX3_dayInYear 76 = .ok (.i2l, 1) := dz_133 (kBcX3_dayInYear_2 76 rfl rfl)
theorem dX3_dayInYear_77 : decode cX3_dayInYear 77 = .ok (.iload 4, 2) := dz_21 (kBcX3_dayInYear_2 77 rfl rfl) (kBcX3_dayInYear_2 78 rfl rfl)
theorem dX3_dayInYear_79 : decode cX3_dayInYear 79 = .ok (.invokestatic 55, 3) := dz_184 (kBcX3_dayInYear_2 79 rfl rfl) (kBcX3_dayInYear_2 80 rfl rfl) (kBcX3_dayInYear_2 81 rfl rfl) rfl
theorem dX3_dayInYear_82 : decode cX3_dayInYear 82 = .ok (.if_icmp .le 26, 3) := dz_164 (kBcX3_dayInYear_2 82 rfl rfl) (kBcX3_dayInYear_2 83 rfl rfl) (kBcX3_dayInYear_2 84 rfl rfl) rfl
theorem dX3_dayInYear_85 : decode cX3_dayInYear 85 = .ok (.iload 5, 2) := dz_21 (kBcX3_dayInYear_2 85 rfl rfl) (kBcX3_dayInYear_2 86 rfl rfl)
theorem dX3_dayInYear_87 : decode cX3_dayInYear 87 = .ok (.aload_n 0, 1) := dz_42 (kBcX3_dayInYear_2 87 rfl rfl)
theorem dX3_dayInYear_88 : decode cX3_dayInYear 88 = .ok (.getfield 15, 3) := dz_180 (kBcX3_dayInYear_2 88 rfl rfl) (kBcX3_dayInYear_2 89 rfl rfl) (kBcX3_dayInYear_2 90 rfl rfl) rfl
theorem dX3_dayInYear_91 : decode cX3_dayInYear 91 = .ok (.iload_n 2, 1) := dz_28 (kBcX3_dayInYear_2 91 rfl rfl)
theorem dX3_dayInYear_92 : decode cX3_dayInYear 92 = .ok (.iaload, 1) := dz_46 (kBcX3_dayInYear_2 92 rfl rfl)
theorem dX3_dayInYear_93 : decode cX3_dayInYear 93 = .ok (.i2l, 1) := dz_133 (kBcX3_dayInYear_2 93 rfl rfl)
theorem dX3_dayInYear_94 : decode cX3_dayInYear 94 = .ok (.iload 4, 2) := dz_21 (kBcX3_dayInYear_2 94 rfl rfl) (kBcX3_dayInYear_2 95 rfl rfl)
theorem dX3_dayInYear_96 : decode cX3_dayInYear 96 = .ok (.invokestatic 55, 3) := dz_184 (kBcX3_dayInYear_3 96 rfl rfl) (kBcX3_dayInYear_3 97 rfl rfl) (kBcX3_dayInYear_3 98 rfl rfl) rfl
theorem dX3_dayInYear_99 : decode cX3_dayInYear 99 = .ok (.isub, 1) := dz_100 (kBcX3_dayInYear_3 99 rfl rfl)
theorem dX3_dayInYear_100 : decode cX3_dayInYear 100 = .ok (.istore 5, 2) := dz_54 (kBcX3_dayInYear_3 100 rfl rfl) (kBcX3_dayInYear_3 101 rfl rfl)
theorem dX3_dayInYear_102 : decode cX3_dayInYear 102 = .ok (.iinc 4 1, 3) := dz_132 (kBcX3_dayInYear_3 102 rfl rfl) (kBcX3_dayInYear_3 103 rfl rfl) (kBcX3_dayInYear_3 104 rfl rfl) rfl
theorem dX3_dayInYear_105 : decode cX3_dayInYear 105 = .ok (.goto (-37), 3) := dz_167 (kBcX3_dayInYear_3 105 rfl rfl) (kBcX3_dayInYear_3 106 rfl rfl) (kBcX3_dayInYear_3 107 rfl rfl) rfl
theorem dX3_dayInYear_108 : decode cX3_dayInYear 108 = .ok (.aload_n 0, 1) := dz_42 (kBcX3_dayInYear_3 108 rfl rfl)
theorem dX3_dayInYear_109 : decode cX3_dayInYear 109 = .ok (.iload_n 1, 1) := dz_27 (kBcX3_dayInYear_3 109 rfl rfl)
theorem dX3_dayInYear_110 : decode cX3_dayInYear 110 = .ok (.aload_n 0, 1) := dz_42 (kBcX3_dayInYear_3 110 rfl rfl)
theorem dX3_dayInYear_111 : decode cX3_dayInYear 111 = .ok (.getfield 15, 3) := dz_180 (kBcX3_dayInYear_3 111 rfl rfl) (kBcX3_dayInYear_3 112 rfl rfl) (kBcX3_dayInYear_3 113 rfl rfl) rfl
theorem dX3_dayInYear_114 : decode cX3_dayInYear 114 = .ok (.iload_n 2, 1) := dz_28 (kBcX3_dayInYear_3 114 rfl rfl)
theorem dX3_dayInYear_115 : decode cX3_dayInYear 115 = .ok (.iaload, 1) := dz_46 (kBcX3_dayInYear_3 115 rfl rfl)
theorem dX3_dayInYear_116 : decode cX3_dayInYear 116 = .ok (.iload 4, 2) := dz_21 (kBcX3_dayInYear_3 116 rfl rfl) (kBcX3_dayInYear_3 117 rfl rfl)
theorem dX3_dayInYear_118 : decode cX3_dayInYear 118 = .ok (.iload 5, 2) := dz_21 (kBcX3_dayInYear_3 118 rfl rfl) (kBcX3_dayInYear_3 119 rfl rfl)
theorem dX3_dayInYear_120 : decode cX3_dayInYear 120 = .ok (.invokevirtual 173, 3) := dz_182 (kBcX3_dayInYear_3 120 rfl rfl) (kBcX3_dayInYear_3 121 rfl rfl) (kBcX3_dayInYear_3 122 rfl rfl) rfl
theorem dX3_dayInYear_123 : decode cX3_dayInYear 123 = .ok (.iload 4, 2) := dz_21 (kBcX3_dayInYear_3 123 rfl rfl) (kBcX3_dayInYear_3 124 rfl rfl)
theorem dX3_dayInYear_125 : decode cX3_dayInYear 125 = .ok (.ireturn, 1) := dz_172 (kBcX3_dayInYear_3 125 rfl rfl)
def kCcX3_dayOfFeast_0 : List Nat := [42, 27, 184, 0, 96, 154, 0, 10, 28, 184, 0, 96, 153, 0, 7, 4, 167, 0, 4, 3, 29, 133, 184, 0, 90, 182, 0, 103, 153, 0, 5, 3]
def kCcX3_dayOfFeast_1 : List Nat := [172, 42, 180, 0, 21, 27, 42, 180, 0, 18, 28, 50, 29, 184, 0, 183, 83, 42, 180, 0, 21, 27, 50, 184, 0, 177, 172]
def kRcX3_dayOfFeast_2 : List Nat := []
def kRcX3_dayOfFeast_1 : List Nat := kCcX3_dayOfFeast_1 ++ kRcX3_dayOfFeast_2
def kRcX3_dayOfFeast_0 : List Nat := kCcX3_dayOfFeast_0 ++ kRcX3_dayOfFeast_1
theorem kRcX3_dayOfFeast_eq : cX3_dayOfFeast.data.toList.map UInt8.toNat = kRcX3_dayOfFeast_0 := by decide +kernel
theorem katcX3_dayOfFeast_0 (i : Nat) : (cX3_dayOfFeast.data.toList.map UInt8.toNat)[0 + i]? = kRcX3_dayOfFeast_0[i]? := by rw [kRcX3_dayOfFeast_eq, Nat.zero_add]
theorem katcX3_dayOfFeast_1 : ∀ i : Nat, (cX3_dayOfFeast.data.toList.map UInt8.toNat)[32 + i]? = kRcX3_dayOfFeast_1[i]? := kstep katcX3_dayOfFeast_0 (C := kCcX3_dayOfFeast_0) rfl rfl
theorem kBcX3_dayOfFeast_0 {b : Nat} (p : Nat) (hp : Nat.ble 0 p = true) (h : kCcX3_dayOfFeast_0[p - 0]? = some b) : kb cX3_dayOfFeast p b := kin katcX3_dayOfFeast_0 rfl hp h
theorem kBcX3_dayOfFeast_1 {b : Nat} (p : Nat) (hp : Nat.ble 32 p = true) (h : kCcX3_dayOfFeast_1[p - 32]? = some b) : kb cX3_dayOfFeast p b := kin katcX3_dayOfFeast_1 rfl hp h
theorem dX3_dayOfFeast_0 : decode cX3_dayOfFeast 0 = .ok (.aload_n 0, 1) := dz_42 (kBcX3_dayOfFeast_0 0 rfl rfl)
theorem dX3_dayOfFeast_1 : decode cX3_dayOfFeast 1 = .ok (.iload_n 1, 1) := dz_27 (kBcX3_dayOfFeast_0 1 rfl rfl)
theorem dX3_dayOfFeast_2 : decode cX3_dayOfFeast 2 = .ok (.invokestatic 96, 3) := dz_184 (kBcX3_dayOfFeast_0 2 rfl rfl) (kBcX3_dayOfFeast_0 3 rfl rfl) (kBcX3_dayOfFeast_0 4 rfl rfl) rfl
theorem dX3_dayOfFeast_5 : decode cX3_dayOfFeast 5 = .ok (.ifCond .ne 10, 3) := dz_154 (kBcX3_dayOfFeast_0 5 rfl rfl) (kBcX3_dayOfFeast_0 6 rfl rfl) (kBcX3_dayOfFeast_0 7 rfl rfl) rfl
theorem dX3_dayOfFeast_8 : decode cX3_dayOfFeast 8 = .ok (.iload_n 2, 1) := dz_28 (kBcX3_dayOfFeast_0 8 rfl rfl)
theorem dX3_dayOfFeast_9 : decode cX3_dayOfFeast 9 = .ok (.invokestatic 96, 3) := dz_184 (kBcX3_dayOfFeast_0 9 rfl rfl) (kBcX3_dayOfFeast_0 10 rfl rfl) (kBcX3_dayOfFeast_0 11 rfl rfl) rfl
theorem dX3_dayOfFeast_12 : decode cX3_dayOfFeast 12 = .ok (.ifCond .eq 7, 3) := dz_153 (kBcX3_dayOfFeast_0 12 rfl rfl) (kBcX3_dayOfFeast_0 13 rfl rfl) (kBcX3_dayOfFeast_0 14 rfl rfl) rfl
theorem dX3_dayOfFeast_15 : decode cX3_dayOfFeast 15 = .ok (.iconst 1, 1) := dz_4 (kBcX3_dayOfFeast_0 15 rfl rfl)
theorem dX3_dayOfFeast_16 : decode cX3_dayOfFeast 16 = .ok (.goto 4, 3) := dz_167 (kBcX3_dayOfFeast_0 16 rfl rfl) (kBcX3_dayOfFeast_0 17 rfl rfl) (kBcX3_dayOfFeast_0 18 rfl rfl) rfl
theorem dX3_dayOfFeast_19 : decode cX3_dayOfFeast 19 = .ok (.iconst 0, 1) := dz_3 (kBcX3_dayOfFeast_0 19 rfl rfl)
theorem dX3_dayOfFeast_20 : decode cX3_dayOfFeast 20 = .ok (.iload_n 3, 1) := dz_29 (kBcX3_dayOfFeast_0 20 rfl rfl)
theorem dX3_dayOfFeast_21 : decode cX3_dayOfFeast 21 = .ok (.i2l, 1) := dz_133 (kBcX3_dayOfFeast_0 21 rfl rfl)
theorem dX3_dayOfFeast_22 : decode cX3_dayOfFeast 22 = .ok (.invokestatic 90, 3) := dz_184 (kBcX3_dayOfFeast_0 22 rfl rfl) (kBcX3_dayOfFeast_0 23 rfl rfl) (kBcX3_dayOfFeast_0 24 rfl rfl) rfl
theorem dX3_dayOfFeast_25 : decode cX3_dayOfFeast 25 = .ok (.invokevirtual 103, 3) := dz_182 (kBcX3_dayOfFeast_0 25 rfl rfl) (kBcX3_dayOfFeast_0 26 rfl rfl) (kBcX3_dayOfFeast_0 27 rfl rfl) rfl
theorem dX3_dayOfFeast_28 : decode cX3_dayOfFeast 28 = .ok (.ifCond .eq 5, 3) := dz_153 (kBcX3_dayOfFeast_0 28 rfl rfl) (kBcX3_dayOfFeast_0 29 rfl rfl) (kBcX3_dayOfFeast_0 30 rfl rfl) rfl
theorem dX3_dayOfFeast_31 : decode cX3_dayOfFeast 31 = .ok (.iconst 0, 1) := dz_3 (kBcX3_dayOfFeast_0 31 rfl rfl)
theorem dX3_dayOfFeast_32 : decode cX3_dayOfFeast 32 = .ok (.ireturn, 1) := dz_172 (kBcX3_dayOfFeast_1 32 rfl rfl)
theorem dX3_dayOfFeast_33 : decode cX3_dayOfFeast 33 = .ok (.aload_n 0, 1) := dz_42 (kBcX3_dayOfFeast_1 33 rfl rfl)
theorem dX3_dayOfFeast_34 : decode cX3_dayOfFeast 34 = .ok (.getfield 21, 3) := dz_180 (kBcX3_dayOfFeast_1 34 rfl rfl) (kBcX3_dayOfFeast_1 35 rfl rfl) (kBcX3_dayOfFeast_1 36 rfl rfl) rfl
theorem dX3_dayOfFeast_37 : decode cX3_dayOfFeast 37 = .ok (.iload_n 1, 1) := dz_27 (kBcX3_dayOfFeast_1 37 rfl rfl)
theorem dX3_dayOfFeast_38 : decode cX3_dayOfFeast 38 = .ok (.aload_n 0, 1) := dz_42 (kBcX3_dayOfFeast_1 38 rfl rfl)
theorem dX3_dayOfFeast_39 : decode cX3_dayOfFeast 39 = .ok (.getfield 18, 3) := dz_180 (kBcX3_dayOfFeast_1 39 rfl rfl) (kBcX3_dayOfFeast_1 40 rfl rfl) (kBcX3_dayOfFeast_1 41 rfl rfl) rfl
theorem dX3_dayOfFeast_42 : decode cX3_dayOfFeast 42 = .ok (.iload_n 2, 1) := dz_28 (kBcX3_dayOfFeast_1 42 rfl rfl)
theorem dX3_dayOfFeast_43 : decode cX3_dayOfFeast 43 = .ok (.aaload, 1) := dz_50 (kBcX3_dayOfFeast_1 43 rfl rfl)
theorem dX3_dayOfFeast_44 : decode cX3_dayOfFeast 44 = .ok (.iload_n 3, 1) := dz_29 (kBcX3_dayOfFeast_1 44 rfl rfl)
theorem dX3_dayOfFeast_45 : decode cX3_dayOfFeast 45 = .ok (.invokestatic 183, 3) := dz_184 (kBcX3_dayOfFeast_1 45 rfl rfl) (kBcX3_dayOfFeast_1 46 rfl rfl) (kBcX3_dayOfFeast_1 47 rfl rfl) rfl
theorem dX3_dayOfFeast_48 : decode cX3_dayOfFeast 48 = .ok (.aastore, 1) := dz_83 (kBcX3_dayOfFeast_1 48 rfl rfl)
theorem dX3_dayOfFeast_49 : decode cX3_dayOfFeast 49 = .ok (.aload_n 0, 1) := dz_42 (kBcX3_dayOfFeast_1 49 rfl rfl)
theorem dX3_dayOfFeast_50 : decode cX3_dayOfFeast 50 = .ok (.getfield 21, 3) := dz_180 (kBcX3_dayOfFeast_1 50 rfl rfl) (kBcX3_dayOfFeast_1 51 rfl rfl) (kBcX3_dayOfFeast_1 52 rfl rfl) rfl
theorem dX3_dayOfFeast_53 : decode cX3_dayOfFeast 53 = .ok (.iload_n 1, 1) := dz_27 (kBcX3_dayOfFeast_1 53 rfl rfl)
theorem dX3_dayOfFeast_54 : decode cX3_dayOfFeast 54 = .ok (.aaload, 1) := dz_50 (kBcX3_dayOfFeast_1 54 rfl rfl)
theorem dX3_dayOfFeast_55 : decode cX3_dayOfFeast 55 = .ok (.invokestatic 177, 3) := dz_184 (kBcX3_dayOfFeast_1 55 rfl rfl) (kBcX3_dayOfFeast_1 56 rfl rfl) (kBcX3_dayOfFeast_1 57 rfl rfl) rfl
theorem dX3_dayOfFeast_58 : decode cX3_dayOfFeast 58 = .ok (.ireturn, 1) := dz_172 (kBcX3_dayOfFeast_1 58 rfl rfl)
